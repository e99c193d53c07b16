def kc_2x : pj_KT := ([(2, 3), (2, 4)], [2, 50, 51, 52], [50, 51, 52])
noncomputable def F_2x (G0 : pj_G) (i : Int32) : pj_G := pj_bd (F_84_s4x G0) (fun y1 G2 => pj_nm (pj_wa G2 50 i.toInt.toNat y1) (fun G3 => pj_nm (pj_ai G3 50 i.toInt.toNat) (fun z4 => if z4.toInt = 99 then (pj_bd (F_83x G3 ((Int8.ofInt 97).toInt32) ((Int8.ofInt 102).toInt32)) (fun y6 G7 => pj_nm (pj_wa G7 51 i.toInt.toNat y6) (fun G8 => pj_bd (F_83x G8 ((Int8.ofInt 48).toInt32) ((Int8.ofInt 57).toInt32)) (fun y9 G10 => pj_nm (pj_wa G10 52 i.toInt.toNat y9) (fun G11 => G11))))) else (if z4.toInt = 104 then (pj_bd (F_86x G3 (Int32.ofInt 2)) (fun y13 G14 => pj_nm (pj_wa G14 51 i.toInt.toNat y13) (fun G15 => G15))) else (if z4.toInt = 108 then (pj_bd (F_83x G3 ((Int8.ofInt 48).toInt32) ((Int8.ofInt 57).toInt32)) (fun y17 G18 => pj_nm (pj_wa G18 51 i.toInt.toNat y17) (fun G19 => pj_bd (F_86x G19 (Int32.ofInt 3)) (fun y20 G21 => pj_nm (pj_wa G21 52 i.toInt.toNat y20) (fun G22 => G22))))) else (if z4.toInt = 116 then (pj_bd (F_83x G3 ((Int8.ofInt 48).toInt32) ((Int8.ofInt 57).toInt32)) (fun y24 G25 => pj_nm (pj_wa G25 51 i.toInt.toNat y24) (fun G26 => pj_bd (F_82x G26 ((Int8.ofInt 45).toInt32)) (fun y27 G28 => cond (pj_c1 .eq y27 0) (pj_bd (F_83x G28 ((Int8.ofInt 48).toInt32) ((Int8.ofInt 57).toInt32)) (fun y30 G31 => pj_nm (pj_wa G31 52 i.toInt.toNat y30) (fun G32 => G32))) (pj_nm (pj_wa G28 52 i.toInt.toNat (Int32.ofInt (-1))) (fun G33 => G33)))))) else (pj_nm (F_81x G3) (fun G35 => G35))))))))
theorem F_2x_e (G0 : pj_G) (i : Int32) : F_2x G0 i = pj_bd (F_84_s4x G0) (fun y1 G2 => pj_nm (pj_wa G2 50 i.toInt.toNat y1) (fun G3 => pj_nm (pj_ai G3 50 i.toInt.toNat) (fun z4 => if z4.toInt = 99 then (pj_bd (F_83x G3 ((Int8.ofInt 97).toInt32) ((Int8.ofInt 102).toInt32)) (fun y6 G7 => pj_nm (pj_wa G7 51 i.toInt.toNat y6) (fun G8 => pj_bd (F_83x G8 ((Int8.ofInt 48).toInt32) ((Int8.ofInt 57).toInt32)) (fun y9 G10 => pj_nm (pj_wa G10 52 i.toInt.toNat y9) (fun G11 => G11))))) else (if z4.toInt = 104 then (pj_bd (F_86x G3 (Int32.ofInt 2)) (fun y13 G14 => pj_nm (pj_wa G14 51 i.toInt.toNat y13) (fun G15 => G15))) else (if z4.toInt = 108 then (pj_bd (F_83x G3 ((Int8.ofInt 48).toInt32) ((Int8.ofInt 57).toInt32)) (fun y17 G18 => pj_nm (pj_wa G18 51 i.toInt.toNat y17) (fun G19 => pj_bd (F_86x G19 (Int32.ofInt 3)) (fun y20 G21 => pj_nm (pj_wa G21 52 i.toInt.toNat y20) (fun G22 => G22))))) else (if z4.toInt = 116 then (pj_bd (F_83x G3 ((Int8.ofInt 48).toInt32) ((Int8.ofInt 57).toInt32)) (fun y24 G25 => pj_nm (pj_wa G25 51 i.toInt.toNat y24) (fun G26 => pj_bd (F_82x G26 ((Int8.ofInt 45).toInt32)) (fun y27 G28 => cond (pj_c1 .eq y27 0) (pj_bd (F_83x G28 ((Int8.ofInt 48).toInt32) ((Int8.ofInt 57).toInt32)) (fun y30 G31 => pj_nm (pj_wa G31 52 i.toInt.toNat y30) (fun G32 => G32))) (pj_nm (pj_wa G28 52 i.toInt.toNat (Int32.ofInt (-1))) (fun G33 => G33)))))) else (pj_nm (F_81x G3) (fun G35 => G35)))))))) := rfl
theorem ct_2x (G0 : pj_G) (hI : pj_Inv G0) (i : Int32) (ri : (0 : Int) ≤ i.toInt ∧ i.toInt ≤ 20) : pj_Y 17 2 [.ref 49, .ref 2, .int i] G0 (fun v' G' => v' = none ∧ pj_Inv G' ∧ pj_kpt kc_2x G0 G' ∧ (G' = F_2x G0 i)) := by
  have c0_ : ((Int8.ofInt 102).toInt32).toInt = 102 := by decide
  have c1_ : ((Int8.ofInt 45).toInt32).toInt = 45 := by decide
  have c2_ : ((Int8.ofInt 48).toInt32).toInt = 48 := by decide
  have c3_ : ((Int8.ofInt 57).toInt32).toInt = 57 := by decide
  have c4_ : ((Int8.ofInt 97).toInt32).toInt = 97 := by decide
  have c5_ : (Int32.ofInt (-1)).toInt = -1 := by decide
  have c6_ : (Int32.ofInt 2).toInt = 2 := by decide
  have c7_ : (Int32.ofInt 3).toInt = 3 := by decide
  refine pj_Y_X (M := pj_m2) rfl rfl (Nat.le_of_ble_eq_true rfl) ?_
  have hK : pj_kpt kc_2x G0 G0 := pj_kpt_r _ _
  show pj_X _ _ G0 0 [(0, .ref 49), (1, .ref 2), (2, .int i)] [] _
  rw [F_2x_e]
  refine pj_X_of (fun r h => pj_R_to (G0, 1, [(0, .ref 49), (1, .ref 2), (2, .int i)], [.ref 49], 0, 0) 1 2 (fun _ => rfl) h) ?_
  refine pj_X_of (fun r h => pj_T_gr hI rfl rfl rfl h) ?_
  refine pj_X_of (fun r h => pj_R_to (G0, 8, [(0, .ref 49), (1, .ref 2), (2, .int i)], [.retAddr 4, .ref 2, .int i, .ref 50], 0, 0) 8 4 (fun _ => rfl) h) ?_
  refine pj_X_ca (vs := [.ref 2, .retAddr 4]) rfl (fun _ => rfl) ⟨Nat.le_of_ble_eq_true rfl, Nat.le_of_ble_eq_true rfl, pj_T_rcv hI rfl⟩ ⟨rfl, rfl⟩ (pj_Y_up (by decide) (ct_84_s4x G0 hI)) ?_
  rintro _ G2 ⟨y1, rfl, iG2, jG2, ry1, ey1, fy1⟩
  replace ey1 := ey1 _ rfl
  rw [← fy1, pj_bd_e]
  have kG2 : pj_kpt kc_2x G0 G2 := pj_kpt_t hK (pj_kpt_s jG2 rfl)
  show pj_X _ _ G2 11 [(0, .ref 49), (1, .ref 2), (2, .int i)] [.int y1, .int i, .ref 50] _
  refine pj_X_of (fun r h => pj_T_is iG2 rfl rfl (by omega) (by omega) h) ?_
  show pj_X _ _ (pj_wa G2 50 i.toInt.toNat y1) 12 [(0, .ref 49), (1, .ref 2), (2, .int i)] [] _
  obtain ⟨G3, hG3⟩ : ∃ H, H = pj_wa G2 50 i.toInt.toNat y1 := ⟨_, rfl⟩
  have iG3 : pj_Inv G3 := by rw [hG3]; exact pj_Inv_wa iG2 rfl (fun q hq => by cases hq) (fun n hn => by cases hn)
  have kG3 : pj_kpt kc_2x G0 G3 := by rw [hG3]; exact pj_kpt_a kG2 rfl
  rw [← hG3]
  rw [pj_nm_e]
  refine pj_X_of (fun r h => pj_R_to (G3, 13, [(0, .ref 49), (1, .ref 2), (2, .int i)], [.ref 49], 0, 0) 13 2 (fun _ => rfl) h) ?_
  refine pj_X_of (fun r h => pj_T_gr iG3 rfl rfl rfl h) ?_
  refine pj_X_of (fun r h => pj_R_to (G3, 17, [(0, .ref 49), (1, .ref 2), (2, .int i)], [.int i, .ref 50], 0, 0) 17 2 (fun _ => rfl) h) ?_
  refine pj_X_of (fun r h => pj_T_il iG3 rfl rfl (by omega) (by omega) h) ?_
  show pj_X _ _ G3 18 [(0, .ref 49), (1, .ref 2), (2, .int i)] [.int (pj_ai G3 50 i.toInt.toNat)] _
  obtain ⟨z4, hz4⟩ : ∃ z : Int32, z = pj_ai G3 50 i.toInt.toNat := ⟨_, rfl⟩
  refine pj_X_eqi hz4.symm ?_
  rw [← hz4, pj_nm_e]
  have ez4 : (pj_ai G3 50 i.toInt.toNat).toInt = z4.toInt := by rw [hz4]
  by_cases t5 : z4.toInt = 99
  · refine pj_X_of (fun r h => pj_R_lw 132 rfl (n := 99) t5 rfl h) ?_
    rw [if_pos t5]
    refine pj_X_of (fun r h => pj_R_to (G3, 133, [(0, .ref 49), (1, .ref 2), (2, .int i)], [.ref 49], 0, 0) 133 2 (fun _ => rfl) h) ?_
    refine pj_X_of (fun r h => pj_T_gr iG3 rfl rfl rfl h) ?_
    refine pj_X_of (fun r h => pj_R_to (G3, 142, [(0, .ref 49), (1, .ref 2), (2, .int i)], [.int ((Int8.ofInt 102).toInt32), .int ((Int8.ofInt 97).toInt32), .ref 2, .int i, .ref 51], 0, 0) 142 5 (fun _ => rfl) h) ?_
    refine pj_X_ca (vs := [.ref 2, .int ((Int8.ofInt 97).toInt32), .int ((Int8.ofInt 102).toInt32)]) rfl (fun _ => rfl) ⟨Nat.le_of_ble_eq_true rfl, Nat.le_of_ble_eq_true rfl, pj_T_rcv iG3 rfl⟩ ⟨rfl, rfl⟩ (pj_Y_up (by decide) (ct_83x G3 iG3 ((Int8.ofInt 97).toInt32) ((Int8.ofInt 102).toInt32) ⟨by omega, by omega⟩ ⟨by omega, by omega⟩)) ?_
    rintro _ G7 ⟨y6, rfl, iG7, jG7, ry6, ey6, fy6⟩
    replace ey6 := ey6 _ rfl
    rw [← fy6, pj_bd_e]
    have kG7 : pj_kpt kc_2x G0 G7 := pj_kpt_t kG3 (pj_kpt_s jG7 rfl)
    show pj_X _ _ G7 145 [(0, .ref 49), (1, .ref 2), (2, .int i)] [.int y6, .int i, .ref 51] _
    refine pj_X_of (fun r h => pj_T_is iG7 rfl rfl (by omega) (by omega) h) ?_
    show pj_X _ _ (pj_wa G7 51 i.toInt.toNat y6) 146 [(0, .ref 49), (1, .ref 2), (2, .int i)] [] _
    obtain ⟨G8, hG8⟩ : ∃ H, H = pj_wa G7 51 i.toInt.toNat y6 := ⟨_, rfl⟩
    have iG8 : pj_Inv G8 := by rw [hG8]; exact pj_Inv_wa iG7 rfl (fun q hq => by cases hq; exact ⟨by show (0 : Int) ≤ _; omega, by show _ ≤ (999 : Int); omega, by show _ ≤ (0 : Int) ∨ (0 : Int) ≤ _; omega⟩) (fun n hn => by cases hn)
    have kG8 : pj_kpt kc_2x G0 G8 := by rw [hG8]; exact pj_kpt_a kG7 rfl
    rw [← hG8]
    rw [pj_nm_e]
    refine pj_X_of (fun r h => pj_R_to (G8, 147, [(0, .ref 49), (1, .ref 2), (2, .int i)], [.ref 49], 0, 0) 147 2 (fun _ => rfl) h) ?_
    refine pj_X_of (fun r h => pj_T_gr iG8 rfl rfl rfl h) ?_
    refine pj_X_of (fun r h => pj_R_to (G8, 156, [(0, .ref 49), (1, .ref 2), (2, .int i)], [.int ((Int8.ofInt 57).toInt32), .int ((Int8.ofInt 48).toInt32), .ref 2, .int i, .ref 52], 0, 0) 156 5 (fun _ => rfl) h) ?_
    refine pj_X_ca (vs := [.ref 2, .int ((Int8.ofInt 48).toInt32), .int ((Int8.ofInt 57).toInt32)]) rfl (fun _ => rfl) ⟨Nat.le_of_ble_eq_true rfl, Nat.le_of_ble_eq_true rfl, pj_T_rcv iG8 rfl⟩ ⟨rfl, rfl⟩ (pj_Y_up (by decide) (ct_83x G8 iG8 ((Int8.ofInt 48).toInt32) ((Int8.ofInt 57).toInt32) ⟨by omega, by omega⟩ ⟨by omega, by omega⟩)) ?_
    rintro _ G10 ⟨y9, rfl, iG10, jG10, ry9, ey9, fy9⟩
    replace ey9 := ey9 _ rfl
    rw [← fy9, pj_bd_e]
    have kG10 : pj_kpt kc_2x G0 G10 := pj_kpt_t kG8 (pj_kpt_s jG10 rfl)
    show pj_X _ _ G10 159 [(0, .ref 49), (1, .ref 2), (2, .int i)] [.int y9, .int i, .ref 52] _
    refine pj_X_of (fun r h => pj_T_is iG10 rfl rfl (by omega) (by omega) h) ?_
    show pj_X _ _ (pj_wa G10 52 i.toInt.toNat y9) 160 [(0, .ref 49), (1, .ref 2), (2, .int i)] [] _
    obtain ⟨G11, hG11⟩ : ∃ H, H = pj_wa G10 52 i.toInt.toNat y9 := ⟨_, rfl⟩
    have iG11 : pj_Inv G11 := by rw [hG11]; exact pj_Inv_wa iG10 rfl (fun q hq => by cases hq) (fun n hn => by cases hn)
    have kG11 : pj_kpt kc_2x G0 G11 := by rw [hG11]; exact pj_kpt_a kG10 rfl
    rw [← hG11]
    rw [pj_nm_e]
    refine pj_X_of (fun r h => pj_R_to (G11, 181, [(0, .ref 49), (1, .ref 2), (2, .int i)], [], 0, 0) 181 2 (fun _ => rfl) h) ?_
    exact pj_X_rt rfl rfl ⟨rfl, iG11, kG11, rfl⟩
  rw [if_neg t5]
  by_cases t12 : z4.toInt = 104
  · refine pj_X_of (fun r h => pj_R_lw 163 rfl (n := 104) t12 rfl h) ?_
    rw [if_pos t12]
    refine pj_X_of (fun r h => pj_R_to (G3, 164, [(0, .ref 49), (1, .ref 2), (2, .int i)], [.ref 49], 0, 0) 164 2 (fun _ => rfl) h) ?_
    refine pj_X_of (fun r h => pj_T_gr iG3 rfl rfl rfl h) ?_
    refine pj_X_of (fun r h => pj_R_to (G3, 170, [(0, .ref 49), (1, .ref 2), (2, .int i)], [.int (Int32.ofInt 2), .ref 2, .int i, .ref 51], 0, 0) 170 4 (fun _ => rfl) h) ?_
    refine pj_X_ca (vs := [.ref 2, .int (Int32.ofInt 2)]) rfl (fun _ => rfl) ⟨Nat.le_of_ble_eq_true rfl, Nat.le_of_ble_eq_true rfl, pj_T_rcv iG3 rfl⟩ ⟨rfl, rfl⟩ (pj_Y_up (by decide) (ct_86x G3 iG3 (Int32.ofInt 2) ⟨by omega, by omega⟩)) ?_
    rintro _ G14 ⟨y13, rfl, iG14, jG14, ry13, fy13⟩
    rw [← fy13, pj_bd_e]
    have kG14 : pj_kpt kc_2x G0 G14 := pj_kpt_t kG3 (pj_kpt_s jG14 rfl)
    show pj_X _ _ G14 173 [(0, .ref 49), (1, .ref 2), (2, .int i)] [.int y13, .int i, .ref 51] _
    refine pj_X_of (fun r h => pj_T_is iG14 rfl rfl (by omega) (by omega) h) ?_
    show pj_X _ _ (pj_wa G14 51 i.toInt.toNat y13) 174 [(0, .ref 49), (1, .ref 2), (2, .int i)] [] _
    obtain ⟨G15, hG15⟩ : ∃ H, H = pj_wa G14 51 i.toInt.toNat y13 := ⟨_, rfl⟩
    have iG15 : pj_Inv G15 := by rw [hG15]; exact pj_Inv_wa iG14 rfl (fun q hq => by cases hq; exact ⟨by show (0 : Int) ≤ _; omega, by show _ ≤ (999 : Int); omega, by show _ ≤ (0 : Int) ∨ (0 : Int) ≤ _; omega⟩) (fun n hn => by cases hn)
    have kG15 : pj_kpt kc_2x G0 G15 := by rw [hG15]; exact pj_kpt_a kG14 rfl
    rw [← hG15]
    rw [pj_nm_e]
    refine pj_X_of (fun r h => pj_R_to (G15, 181, [(0, .ref 49), (1, .ref 2), (2, .int i)], [], 0, 0) 181 2 (fun _ => rfl) h) ?_
    exact pj_X_rt rfl rfl ⟨rfl, iG15, kG15, rfl⟩
  rw [if_neg t12]
  by_cases t16 : z4.toInt = 108
  · refine pj_X_of (fun r h => pj_R_lw 104 rfl (n := 108) t16 rfl h) ?_
    rw [if_pos t16]
    refine pj_X_of (fun r h => pj_R_to (G3, 105, [(0, .ref 49), (1, .ref 2), (2, .int i)], [.ref 49], 0, 0) 105 2 (fun _ => rfl) h) ?_
    refine pj_X_of (fun r h => pj_T_gr iG3 rfl rfl rfl h) ?_
    refine pj_X_of (fun r h => pj_R_to (G3, 114, [(0, .ref 49), (1, .ref 2), (2, .int i)], [.int ((Int8.ofInt 57).toInt32), .int ((Int8.ofInt 48).toInt32), .ref 2, .int i, .ref 51], 0, 0) 114 5 (fun _ => rfl) h) ?_
    refine pj_X_ca (vs := [.ref 2, .int ((Int8.ofInt 48).toInt32), .int ((Int8.ofInt 57).toInt32)]) rfl (fun _ => rfl) ⟨Nat.le_of_ble_eq_true rfl, Nat.le_of_ble_eq_true rfl, pj_T_rcv iG3 rfl⟩ ⟨rfl, rfl⟩ (pj_Y_up (by decide) (ct_83x G3 iG3 ((Int8.ofInt 48).toInt32) ((Int8.ofInt 57).toInt32) ⟨by omega, by omega⟩ ⟨by omega, by omega⟩)) ?_
    rintro _ G18 ⟨y17, rfl, iG18, jG18, ry17, ey17, fy17⟩
    replace ey17 := ey17 _ rfl
    rw [← fy17, pj_bd_e]
    have kG18 : pj_kpt kc_2x G0 G18 := pj_kpt_t kG3 (pj_kpt_s jG18 rfl)
    show pj_X _ _ G18 117 [(0, .ref 49), (1, .ref 2), (2, .int i)] [.int y17, .int i, .ref 51] _
    refine pj_X_of (fun r h => pj_T_is iG18 rfl rfl (by omega) (by omega) h) ?_
    show pj_X _ _ (pj_wa G18 51 i.toInt.toNat y17) 118 [(0, .ref 49), (1, .ref 2), (2, .int i)] [] _
    obtain ⟨G19, hG19⟩ : ∃ H, H = pj_wa G18 51 i.toInt.toNat y17 := ⟨_, rfl⟩
    have iG19 : pj_Inv G19 := by rw [hG19]; exact pj_Inv_wa iG18 rfl (fun q hq => by cases hq; exact ⟨by show (0 : Int) ≤ _; omega, by show _ ≤ (999 : Int); omega, by show _ ≤ (0 : Int) ∨ (0 : Int) ≤ _; omega⟩) (fun n hn => by cases hn)
    have kG19 : pj_kpt kc_2x G0 G19 := by rw [hG19]; exact pj_kpt_a kG18 rfl
    rw [← hG19]
    rw [pj_nm_e]
    refine pj_X_of (fun r h => pj_R_to (G19, 119, [(0, .ref 49), (1, .ref 2), (2, .int i)], [.ref 49], 0, 0) 119 2 (fun _ => rfl) h) ?_
    refine pj_X_of (fun r h => pj_T_gr iG19 rfl rfl rfl h) ?_
    refine pj_X_of (fun r h => pj_R_to (G19, 125, [(0, .ref 49), (1, .ref 2), (2, .int i)], [.int (Int32.ofInt 3), .ref 2, .int i, .ref 52], 0, 0) 125 4 (fun _ => rfl) h) ?_
    refine pj_X_ca (vs := [.ref 2, .int (Int32.ofInt 3)]) rfl (fun _ => rfl) ⟨Nat.le_of_ble_eq_true rfl, Nat.le_of_ble_eq_true rfl, pj_T_rcv iG19 rfl⟩ ⟨rfl, rfl⟩ (pj_Y_up (by decide) (ct_86x G19 iG19 (Int32.ofInt 3) ⟨by omega, by omega⟩)) ?_
    rintro _ G21 ⟨y20, rfl, iG21, jG21, ry20, fy20⟩
    rw [← fy20, pj_bd_e]
    have kG21 : pj_kpt kc_2x G0 G21 := pj_kpt_t kG19 (pj_kpt_s jG21 rfl)
    show pj_X _ _ G21 128 [(0, .ref 49), (1, .ref 2), (2, .int i)] [.int y20, .int i, .ref 52] _
    refine pj_X_of (fun r h => pj_T_is iG21 rfl rfl (by omega) (by omega) h) ?_
    show pj_X _ _ (pj_wa G21 52 i.toInt.toNat y20) 129 [(0, .ref 49), (1, .ref 2), (2, .int i)] [] _
    obtain ⟨G22, hG22⟩ : ∃ H, H = pj_wa G21 52 i.toInt.toNat y20 := ⟨_, rfl⟩
    have iG22 : pj_Inv G22 := by rw [hG22]; exact pj_Inv_wa iG21 rfl (fun q hq => by cases hq) (fun n hn => by cases hn)
    have kG22 : pj_kpt kc_2x G0 G22 := by rw [hG22]; exact pj_kpt_a kG21 rfl
    rw [← hG22]
    rw [pj_nm_e]
    refine pj_X_of (fun r h => pj_R_to (G22, 181, [(0, .ref 49), (1, .ref 2), (2, .int i)], [], 0, 0) 181 2 (fun _ => rfl) h) ?_
    exact pj_X_rt rfl rfl ⟨rfl, iG22, kG22, rfl⟩
  rw [if_neg t16]
  by_cases t23 : z4.toInt = 116
  · refine pj_X_of (fun r h => pj_R_lw 60 rfl (n := 116) t23 rfl h) ?_
    rw [if_pos t23]
    refine pj_X_of (fun r h => pj_R_to (G3, 61, [(0, .ref 49), (1, .ref 2), (2, .int i)], [.ref 49], 0, 0) 61 2 (fun _ => rfl) h) ?_
    refine pj_X_of (fun r h => pj_T_gr iG3 rfl rfl rfl h) ?_
    refine pj_X_of (fun r h => pj_R_to (G3, 70, [(0, .ref 49), (1, .ref 2), (2, .int i)], [.int ((Int8.ofInt 57).toInt32), .int ((Int8.ofInt 48).toInt32), .ref 2, .int i, .ref 51], 0, 0) 70 5 (fun _ => rfl) h) ?_
    refine pj_X_ca (vs := [.ref 2, .int ((Int8.ofInt 48).toInt32), .int ((Int8.ofInt 57).toInt32)]) rfl (fun _ => rfl) ⟨Nat.le_of_ble_eq_true rfl, Nat.le_of_ble_eq_true rfl, pj_T_rcv iG3 rfl⟩ ⟨rfl, rfl⟩ (pj_Y_up (by decide) (ct_83x G3 iG3 ((Int8.ofInt 48).toInt32) ((Int8.ofInt 57).toInt32) ⟨by omega, by omega⟩ ⟨by omega, by omega⟩)) ?_
    rintro _ G25 ⟨y24, rfl, iG25, jG25, ry24, ey24, fy24⟩
    replace ey24 := ey24 _ rfl
    rw [← fy24, pj_bd_e]
    have kG25 : pj_kpt kc_2x G0 G25 := pj_kpt_t kG3 (pj_kpt_s jG25 rfl)
    show pj_X _ _ G25 73 [(0, .ref 49), (1, .ref 2), (2, .int i)] [.int y24, .int i, .ref 51] _
    refine pj_X_of (fun r h => pj_T_is iG25 rfl rfl (by omega) (by omega) h) ?_
    show pj_X _ _ (pj_wa G25 51 i.toInt.toNat y24) 74 [(0, .ref 49), (1, .ref 2), (2, .int i)] [] _
    obtain ⟨G26, hG26⟩ : ∃ H, H = pj_wa G25 51 i.toInt.toNat y24 := ⟨_, rfl⟩
    have iG26 : pj_Inv G26 := by rw [hG26]; exact pj_Inv_wa iG25 rfl (fun q hq => by cases hq; exact ⟨by show (0 : Int) ≤ _; omega, by show _ ≤ (999 : Int); omega, by show _ ≤ (0 : Int) ∨ (0 : Int) ≤ _; omega⟩) (fun n hn => by cases hn)
    have kG26 : pj_kpt kc_2x G0 G26 := by rw [hG26]; exact pj_kpt_a kG25 rfl
    rw [← hG26]
    rw [pj_nm_e]
    refine pj_X_of (fun r h => pj_R_to (G26, 75, [(0, .ref 49), (1, .ref 2), (2, .int i)], [.ref 49], 0, 0) 75 2 (fun _ => rfl) h) ?_
    refine pj_X_of (fun r h => pj_T_gr iG26 rfl rfl rfl h) ?_
    refine pj_X_of (fun r h => pj_R_to (G26, 82, [(0, .ref 49), (1, .ref 2), (2, .int i)], [.int ((Int8.ofInt 45).toInt32), .ref 2, .int i, .ref 52], 0, 0) 82 4 (fun _ => rfl) h) ?_
    refine pj_X_ca (vs := [.ref 2, .int ((Int8.ofInt 45).toInt32)]) rfl (fun _ => rfl) ⟨Nat.le_of_ble_eq_true rfl, Nat.le_of_ble_eq_true rfl, pj_T_rcv iG26 rfl⟩ ⟨rfl, rfl⟩ (pj_Y_up (by decide) (ct_82x G26 iG26 ((Int8.ofInt 45).toInt32) ⟨by omega, by omega⟩)) ?_
    rintro _ G28 ⟨y27, rfl, iG28, jG28, ry27, ey27, fy27⟩
    replace ey27 := ey27 _ rfl
    rw [← fy27, pj_bd_e]
    have kG28 : pj_kpt kc_2x G0 G28 := pj_kpt_t kG26 (pj_kpt_s jG28 rfl)
    show pj_X _ _ G28 85 [(0, .ref 49), (1, .ref 2), (2, .int i)] [.int y27, .int i, .ref 52] _
    cases b29 : pj_c1 .eq y27 0 with
    | true =>
      rw [pj_cT]
      have ub29 := pj_u0_eqT b29
      refine pj_X_of (fun r h => pj_R_ifT 92 rfl rfl b29 h) ?_
      refine pj_X_of (fun r h => pj_R_to (G28, 97, [(0, .ref 49), (1, .ref 2), (2, .int i)], [.int ((Int8.ofInt 57).toInt32), .int ((Int8.ofInt 48).toInt32), .ref 2, .int i, .ref 52], 0, 0) 97 4 (fun _ => rfl) h) ?_
      refine pj_X_ca (vs := [.ref 2, .int ((Int8.ofInt 48).toInt32), .int ((Int8.ofInt 57).toInt32)]) rfl (fun _ => rfl) ⟨Nat.le_of_ble_eq_true rfl, Nat.le_of_ble_eq_true rfl, pj_T_rcv iG28 rfl⟩ ⟨rfl, rfl⟩ (pj_Y_up (by decide) (ct_83x G28 iG28 ((Int8.ofInt 48).toInt32) ((Int8.ofInt 57).toInt32) ⟨by omega, by omega⟩ ⟨by omega, by omega⟩)) ?_
      rintro _ G31 ⟨y30, rfl, iG31, jG31, ry30, ey30, fy30⟩
      replace ey30 := ey30 _ rfl
      rw [← fy30, pj_bd_e]
      have kG31 : pj_kpt kc_2x G0 G31 := pj_kpt_t kG28 (pj_kpt_s jG31 rfl)
      show pj_X _ _ G31 100 [(0, .ref 49), (1, .ref 2), (2, .int i)] [.int y30, .int i, .ref 52] _
      refine pj_X_of (fun r h => pj_T_is iG31 rfl rfl (by omega) (by omega) h) ?_
      show pj_X _ _ (pj_wa G31 52 i.toInt.toNat y30) 101 [(0, .ref 49), (1, .ref 2), (2, .int i)] [] _
      obtain ⟨G32, hG32⟩ : ∃ H, H = pj_wa G31 52 i.toInt.toNat y30 := ⟨_, rfl⟩
      have iG32 : pj_Inv G32 := by rw [hG32]; exact pj_Inv_wa iG31 rfl (fun q hq => by cases hq) (fun n hn => by cases hn)
      have kG32 : pj_kpt kc_2x G0 G32 := by rw [hG32]; exact pj_kpt_a kG31 rfl
      rw [← hG32]
      rw [pj_nm_e]
      refine pj_X_of (fun r h => pj_R_to (G32, 181, [(0, .ref 49), (1, .ref 2), (2, .int i)], [], 0, 0) 181 2 (fun _ => rfl) h) ?_
      exact pj_X_rt rfl rfl ⟨rfl, iG32, kG32, rfl⟩
    | false =>
      rw [pj_cF]
      have ub29 := pj_u0_eqF b29
      refine pj_X_of (fun r h => pj_R_ifF rfl b29 h) ?_
      refine pj_X_of (fun r h => pj_R_to (G28, 100, [(0, .ref 49), (1, .ref 2), (2, .int i)], [.int (Int32.ofInt (-1)), .int i, .ref 52], 0, 0) 100 3 (fun _ => rfl) h) ?_
      refine pj_X_of (fun r h => pj_T_is iG28 rfl rfl (by omega) (by omega) h) ?_
      show pj_X _ _ (pj_wa G28 52 i.toInt.toNat (Int32.ofInt (-1))) 101 [(0, .ref 49), (1, .ref 2), (2, .int i)] [] _
      obtain ⟨G33, hG33⟩ : ∃ H, H = pj_wa G28 52 i.toInt.toNat (Int32.ofInt (-1)) := ⟨_, rfl⟩
      have iG33 : pj_Inv G33 := by rw [hG33]; exact pj_Inv_wa iG28 rfl (fun q hq => by cases hq) (fun n hn => by cases hn)
      have kG33 : pj_kpt kc_2x G0 G33 := by rw [hG33]; exact pj_kpt_a kG28 rfl
      rw [← hG33]
      rw [pj_nm_e]
      refine pj_X_of (fun r h => pj_R_to (G33, 181, [(0, .ref 49), (1, .ref 2), (2, .int i)], [], 0, 0) 181 2 (fun _ => rfl) h) ?_
      exact pj_X_rt rfl rfl ⟨rfl, iG33, kG33, rfl⟩
  rw [if_neg t23]
  refine pj_X_of (fun r h => pj_R_ld 177 rfl ⟨by show ¬ (99 : Int) = _; omega, by show ¬ (104 : Int) = _; omega, by show ¬ (108 : Int) = _; omega, by show ¬ (116 : Int) = _; omega, trivial⟩ rfl h) ?_
  refine pj_X_of (fun r h => pj_R_to (G3, 178, [(0, .ref 49), (1, .ref 2), (2, .int i)], [.ref 2], 0, 0) 178 2 (fun _ => rfl) h) ?_
  refine pj_X_ca (vs := [.ref 2]) rfl (fun _ => rfl) ⟨Nat.le_of_ble_eq_true rfl, Nat.le_of_ble_eq_true rfl, pj_T_rcv iG3 rfl⟩ ⟨rfl, rfl⟩ (pj_Y_up (by decide) (ct_81x G3 iG3)) ?_
  rintro _ G35 ⟨rfl, iG35, jG35, eG35, fy34⟩
  replace eG35 := eG35 _ rfl
  rw [← fy34, pj_nm_e]
  have kG35 : pj_kpt kc_2x G0 G35 := pj_kpt_t kG3 (pj_kpt_s jG35 rfl)
  show pj_X _ _ G35 181 [(0, .ref 49), (1, .ref 2), (2, .int i)] [] _
  exact pj_X_rt rfl rfl ⟨rfl, iG35, kG35, rfl⟩
theorem fr_2x (G0 : pj_G) (hI : pj_Inv G0) (i : Int32) (ri : (0 : Int) ≤ i.toInt ∧ i.toInt ≤ 20) : pj_Inv (F_2x G0 i) ∧ pj_kpt kc_2x G0 (F_2x G0 i) := by
  obtain ⟨v, G', -, -, i, j, e⟩ := ct_2x G0 hI i ri
  rw [← e]
  exact ⟨i, j⟩
def kc_1x : pj_KT := ([(2, 3), (2, 4), (49, 3)], [2, 49, 50, 51, 52], [50, 51, 52])
noncomputable def L_1x (G0 : pj_G) (fu : Nat) : Int32 → Int32 → pj_G → pj_G := Nat.rec (motive := fun _ => Int32 → Int32 → pj_G → pj_G) (fun _ _ G => G) (fun _ ih v2 v3 G => cond (pj_c1 .ge v3 ((Int8.ofInt 21).toInt32)) (G) (cond (pj_c1 .eq v2 0) (G) (pj_nm (F_2x G v3) (fun G4 => pj_nm (v3 + (Int32.ofInt 1)) (fun z5 => pj_nm (pj_wv G4 49 3 (.int z5)) (fun G6 => pj_bd (F_82x G6 ((Int8.ofInt 59).toInt32)) (fun y7 G8 => ih y7 z5 G8))))))) fu
theorem L_1x_s0 (G0 : pj_G) (fu : Nat) (v2 : Int32) (v3 : Int32) (G : pj_G) : L_1x G0 (fu + 1) v2 v3 G = cond (pj_c1 .ge v3 ((Int8.ofInt 21).toInt32)) (G) (cond (pj_c1 .eq v2 0) (G) (pj_nm (F_2x G v3) (fun G4 => pj_nm (v3 + (Int32.ofInt 1)) (fun z5 => pj_nm (pj_wv G4 49 3 (.int z5)) (fun G6 => pj_bd (F_82x G6 ((Int8.ofInt 59).toInt32)) (fun y7 G8 => L_1x G0 fu y7 z5 G8)))))) := rfl
noncomputable def F_1x (G0 : pj_G) : pj_G := pj_nm (pj_wv G0 49 3 (.int (Int32.ofInt 0))) (fun G9 => pj_nm (F_80x G9) (fun y10 => cond (pj_c1 .eq y10 (Int32.ofInt (-1))) (L_1x G0 22 (Int32.ofInt 0) (Int32.ofInt 0) G9) (L_1x G0 22 (Int32.ofInt 1) (Int32.ofInt 0) G9)))
theorem F_1x_e (G0 : pj_G) : F_1x G0 = pj_nm (pj_wv G0 49 3 (.int (Int32.ofInt 0))) (fun G9 => pj_nm (F_80x G9) (fun y10 => cond (pj_c1 .eq y10 (Int32.ofInt (-1))) (L_1x G0 22 (Int32.ofInt 0) (Int32.ofInt 0) G9) (L_1x G0 22 (Int32.ofInt 1) (Int32.ofInt 0) G9))) := rfl
theorem lp_ct_1x (G0 : pj_G) (hI0 : pj_Inv G0) : ∀ mn : Nat, (∀ (G : pj_G) (hI : pj_Inv G) (hK : pj_kpt kc_1x G0 G) (v2 : Int32) (v3 : Int32), ((0 : Int) ≤ v2.toInt ∧ v2.toInt ≤ 1) → ((0 : Int) ≤ v3.toInt ∧ v3.toInt ≤ 21) → 21 - v3.toInt < (mn : Int) → pj_X 17 pj_m1 G 21 [(0, .ref 49), (1, .ref 2), (2, .int v2), (3, .int v3)] [] (fun v' G' => v' = none ∧ pj_Inv G' ∧ pj_kpt kc_1x G0 G' ∧ (G' = L_1x G0 mn v2 v3 G))) := by
  have c0_ : ((Int8.ofInt 21).toInt32).toInt = 21 := by decide
  have c1_ : ((Int8.ofInt 59).toInt32).toInt = 59 := by decide
  have c2_ : (Int32.ofInt (-1)).toInt = -1 := by decide
  have c3_ : (Int32.ofInt 0).toInt = 0 := by decide
  have c4_ : (Int32.ofInt 1).toInt = 1 := by decide
  intro mn
  induction mn with
  | zero =>
    intro G hI hK v2 v3 rv2 rv3 hm
    exfalso
    omega
  | succ mn ih =>
    intro G hI hK v2 v3 rv2 rv3 hm
    rw [L_1x_s0]
    refine pj_X_of (fun r h => pj_R_to (G, 24, [(0, .ref 49), (1, .ref 2), (2, .int v2), (3, .int v3)], [.int ((Int8.ofInt 21).toInt32), .int v3], 0, 0) 24 3 (fun _ => rfl) h) ?_
    cases b1 : pj_c1 .ge v3 ((Int8.ofInt 21).toInt32) with
    | true =>
      rw [pj_cT]
      have ub1 := pj_u_geT b1
      refine pj_X_of (fun r h => pj_R_icT 57 rfl rfl b1 h) ?_
      exact pj_X_rt rfl rfl ⟨rfl, hI, hK, rfl⟩
    | false =>
      rw [pj_cF]
      have ub1 := pj_u_geF b1
      refine pj_X_of (fun r h => pj_R_icF rfl b1 h) ?_
      refine pj_X_of (fun r h => pj_R_to (G, 28, [(0, .ref 49), (1, .ref 2), (2, .int v2), (3, .int v3)], [.int v2], 0, 0) 28 2 (fun _ => rfl) h) ?_
      cases b2 : pj_c1 .eq v2 0 with
      | true =>
        rw [pj_cT]
        have ub2 := pj_u0_eqT b2
        refine pj_X_of (fun r h => pj_R_ifT 57 rfl rfl b2 h) ?_
        exact pj_X_rt rfl rfl ⟨rfl, hI, hK, rfl⟩
      | false =>
        rw [pj_cF]
        have ub2 := pj_u0_eqF b2
        refine pj_X_of (fun r h => pj_R_ifF rfl b2 h) ?_
        refine pj_X_of (fun r h => pj_R_to (G, 34, [(0, .ref 49), (1, .ref 2), (2, .int v2), (3, .int v3)], [.int v3, .ref 2, .ref 49], 0, 0) 34 4 (fun _ => rfl) h) ?_
        refine pj_X_ca (vs := [.ref 49, .ref 2, .int v3]) rfl (fun _ => rfl) ⟨Nat.le_of_ble_eq_true rfl, Nat.le_of_ble_eq_true rfl, pj_T_rcv hI rfl⟩ ⟨rfl, rfl⟩ (pj_Y_up (by decide) (ct_2x G hI v3 ⟨by omega, by omega⟩)) ?_
        rintro _ G4 ⟨rfl, iG4, jG4, fy3⟩
        rw [← fy3, pj_nm_e]
        have kG4 : pj_kpt kc_1x G0 G4 := pj_kpt_t hK (pj_kpt_s jG4 rfl)
        show pj_X _ _ G4 37 [(0, .ref 49), (1, .ref 2), (2, .int v2), (3, .int v3)] [] _
        refine pj_X_of (fun r h => pj_R_to (G4, 41, [(0, .ref 49), (1, .ref 2), (2, .int v2), (3, .int v3)], [.int (v3 + (Int32.ofInt 1)), .ref 49], 0, 0) 41 5 (fun _ => rfl) h) ?_
        obtain ⟨z5, hz5⟩ : ∃ z : Int32, z = v3 + (Int32.ofInt 1) := ⟨_, rfl⟩
        refine pj_X_eqi hz5.symm ?_
        rw [← hz5, pj_nm_e]
        have fz5_0 : z5.toInt = v3.toInt + (Int32.ofInt 1).toInt := by rw [hz5]; exact pj_addI (by have := pj_i32 v3; have := pj_i32 (Int32.ofInt 1); omega) (by have := pj_i32 v3; have := pj_i32 (Int32.ofInt 1); omega)
        refine pj_X_of (fun r h => pj_T_pf iG4 rfl rfl rfl h) ?_
        show pj_X _ _ (pj_wv G4 49 3 (.int z5)) 44 [(0, .ref 49), (1, .ref 2), (2, .int v2), (3, .int v3)] [] _
        obtain ⟨G6, hG6⟩ : ∃ H, H = pj_wv G4 49 3 (.int z5) := ⟨_, rfl⟩
        have iG6 : pj_Inv G6 := by rw [hG6]; exact pj_Inv_wi iG4 (ci := 0) rfl (fun q hq => by cases hq; exact ⟨by show (0 : Int) ≤ _; omega, by show _ ≤ (21 : Int); omega⟩)
        have kG6 : pj_kpt kc_1x G0 G6 := by rw [hG6]; exact pj_kpt_v kG4 rfl
        rw [← hG6]
        rw [pj_nm_e]
        refine pj_X_of (fun r h => pj_R_to (G6, 47, [(0, .ref 49), (1, .ref 2), (2, .int v2), (3, .int v3)], [.int ((Int8.ofInt 59).toInt32), .ref 2], 0, 0) 47 3 (fun _ => rfl) h) ?_
        refine pj_X_ca (vs := [.ref 2, .int ((Int8.ofInt 59).toInt32)]) rfl (fun _ => rfl) ⟨Nat.le_of_ble_eq_true rfl, Nat.le_of_ble_eq_true rfl, pj_T_rcv iG6 rfl⟩ ⟨rfl, rfl⟩ (pj_Y_up (by decide) (ct_82x G6 iG6 ((Int8.ofInt 59).toInt32) ⟨by omega, by omega⟩)) ?_
        rintro _ G8 ⟨y7, rfl, iG8, jG8, ry7, ey7, fy7⟩
        replace ey7 := ey7 _ rfl
        rw [← fy7, pj_bd_e]
        have kG8 : pj_kpt kc_1x G0 G8 := pj_kpt_t kG6 (pj_kpt_s jG8 rfl)
        show pj_X _ _ G8 50 [(0, .ref 49), (1, .ref 2), (2, .int v2), (3, .int v3)] [.int y7] _
        refine pj_X_of (fun r h => pj_R_to (G8, 54, [(3, .int (v3 + Int32.ofInt 1)), (2, .int y7), (0, .ref 49), (1, .ref 2)], [], 0, 0) 54 3 (fun _ => rfl) h) ?_
        rw [← hz5]
        refine pj_X_of (fun r h => pj_R_to (G8, 21, [(3, .int z5), (2, .int y7), (0, .ref 49), (1, .ref 2)], [], 0, 0) 21 2 (fun _ => rfl) h) ?_
        exact pj_X_sub [(0, .ref 49), (1, .ref 2), (2, .int y7), (3, .int z5)] (show List.Nodup [0, 1, 2, 3] by decide) ⟨rfl, rfl, rfl, rfl, trivial⟩ (ih G8 iG8 kG8 y7 z5 ⟨by omega, by omega⟩ ⟨by omega, by omega⟩ (by omega))
theorem ct_1x (G0 : pj_G) (hI : pj_Inv G0) : pj_Y 18 1 [.ref 49, .ref 2] G0 (fun v' G' => v' = none ∧ pj_Inv G' ∧ pj_kpt kc_1x G0 G' ∧ (G' = F_1x G0)) := by
  have c0_ : ((Int8.ofInt 21).toInt32).toInt = 21 := by decide
  have c1_ : ((Int8.ofInt 59).toInt32).toInt = 59 := by decide
  have c2_ : (Int32.ofInt (-1)).toInt = -1 := by decide
  have c3_ : (Int32.ofInt 0).toInt = 0 := by decide
  have c4_ : (Int32.ofInt 1).toInt = 1 := by decide
  refine pj_Y_X (M := pj_m1) rfl rfl (Nat.le_of_ble_eq_true rfl) ?_
  have hK : pj_kpt kc_1x G0 G0 := pj_kpt_r _ _
  show pj_X _ _ G0 0 [(0, .ref 49), (1, .ref 2)] [] _
  rw [F_1x_e]
  refine pj_X_of (fun r h => pj_R_to (G0, 2, [(0, .ref 49), (1, .ref 2)], [.int (Int32.ofInt 0), .ref 49], 0, 0) 2 3 (fun _ => rfl) h) ?_
  refine pj_X_of (fun r h => pj_T_pf hI rfl rfl rfl h) ?_
  show pj_X _ _ (pj_wv G0 49 3 (.int (Int32.ofInt 0))) 5 [(0, .ref 49), (1, .ref 2)] [] _
  obtain ⟨G9, hG9⟩ : ∃ H, H = pj_wv G0 49 3 (.int (Int32.ofInt 0)) := ⟨_, rfl⟩
  have iG9 : pj_Inv G9 := by rw [hG9]; exact pj_Inv_wi hI (ci := 0) rfl (fun q hq => by cases hq; exact ⟨by show (0 : Int) ≤ _; omega, by show _ ≤ (21 : Int); omega⟩)
  have kG9 : pj_kpt kc_1x G0 G9 := by rw [hG9]; exact pj_kpt_v hK rfl
  rw [← hG9]
  rw [pj_nm_e]
  refine pj_X_of (fun r h => pj_R_to (G9, 6, [(0, .ref 49), (1, .ref 2)], [.ref 2], 0, 0) 6 2 (fun _ => rfl) h) ?_
  refine pj_X_ca (vs := [.ref 2]) rfl (fun _ => rfl) ⟨Nat.le_of_ble_eq_true rfl, Nat.le_of_ble_eq_true rfl, pj_T_rcv iG9 rfl⟩ ⟨rfl, rfl⟩ (pj_Y_up (by decide) (ct_80x G9 iG9)) ?_
  rintro _ _ ⟨y10, rfl, rfl, ry10, ey10, fy10⟩
  replace ey10 := ey10 _ rfl
  rw [← fy10, pj_nm_e]
  show pj_X _ _ G9 9 [(0, .ref 49), (1, .ref 2)] [.int y10] _
  refine pj_X_of (fun r h => pj_R_to (G9, 10, [(0, .ref 49), (1, .ref 2)], [.int (Int32.ofInt (-1)), .int y10], 0, 0) 10 2 (fun _ => rfl) h) ?_
  cases b11 : pj_c1 .eq y10 (Int32.ofInt (-1)) with
  | true =>
    rw [pj_cT]
    have ub11 := pj_u_eqT b11
    refine pj_X_of (fun r h => pj_R_icT 17 rfl rfl b11 h) ?_
    refine pj_X_of (fun r h => pj_R_to (G9, 21, [(3, .int (Int32.ofInt 0)), (2, .int (Int32.ofInt 0)), (0, .ref 49), (1, .ref 2)], [], 0, 0) 21 5 (fun _ => rfl) h) ?_
    exact pj_X_sub [(0, .ref 49), (1, .ref 2), (2, .int (Int32.ofInt 0)), (3, .int (Int32.ofInt 0))] (show List.Nodup [0, 1, 2, 3] by decide) ⟨rfl, rfl, rfl, rfl, trivial⟩ ((lp_ct_1x G0 hI   22) G9 iG9 kG9 (Int32.ofInt 0) (Int32.ofInt 0) ⟨by omega, by omega⟩ ⟨by omega, by omega⟩ (by omega))
  | false =>
    rw [pj_cF]
    have ub11 := pj_u_eqF b11
    refine pj_X_of (fun r h => pj_R_icF rfl b11 h) ?_
    refine pj_X_of (fun r h => pj_R_to (G9, 21, [(3, .int (Int32.ofInt 0)), (2, .int (Int32.ofInt 1)), (0, .ref 49), (1, .ref 2)], [], 0, 0) 21 6 (fun _ => rfl) h) ?_
    exact pj_X_sub [(0, .ref 49), (1, .ref 2), (2, .int (Int32.ofInt 1)), (3, .int (Int32.ofInt 0))] (show List.Nodup [0, 1, 2, 3] by decide) ⟨rfl, rfl, rfl, rfl, trivial⟩ ((lp_ct_1x G0 hI   22) G9 iG9 kG9 (Int32.ofInt 1) (Int32.ofInt 0) ⟨by omega, by omega⟩ ⟨by omega, by omega⟩ (by omega))
theorem fr_1x (G0 : pj_G) (hI : pj_Inv G0) : pj_Inv (F_1x G0) ∧ pj_kpt kc_1x G0 (F_1x G0) := by
  obtain ⟨v, G', -, -, i, j, e⟩ := ct_1x G0 hI 
  rw [← e]
  exact ⟨i, j⟩
def kc_4x : pj_KT := ([(6, 7), (6, 8), (21, 7), (21, 8)], [6, 21, 22, 23, 24, 25, 26, 30, 33], [22, 23, 24, 25, 26, 30, 33])
noncomputable def F_4x (G0 : pj_G) (i : Int32) : Int32 × pj_G := pj_nm (pj_ai G0 50 i.toInt.toNat) (fun z1 => if z1.toInt = 99 then (pj_nm (pj_ai G0 51 i.toInt.toNat) (fun z3 => pj_nm (pj_ai G0 52 i.toInt.toNat) (fun z4 => pj_bd (F_104x G0 z3 z4) (fun y5 G6 => cond (pj_c1 .lt y5 0) ((Int32.ofInt 0, G6)) ((Int32.ofInt 1, G6)))))) else (if z1.toInt = 108 then (pj_nm (pj_ai G0 51 i.toInt.toNat) (fun z9 => pj_nm (pj_fi G0 21 7) (fun y10 => pj_nm (pj_ai G0 52 i.toInt.toNat) (fun z11 => pj_nm (y10 + z11) (fun z12 => pj_bd (F_103x G0 z9 z12) (fun y13 G14 => cond (pj_c1 .lt y13 (Int32.ofInt (-1))) ((Int32.ofInt 0, G14)) ((Int32.ofInt 1, G14)))))))) else (if z1.toInt = 116 then (pj_nm (pj_ai G0 51 i.toInt.toNat) (fun z17 => pj_nm (pj_ai G0 52 i.toInt.toNat) (fun z18 => pj_bd (F_102x G0 z17 z18) (fun y19 G20 => cond (pj_c1 .lt y19 0) ((Int32.ofInt 0, G20)) ((Int32.ofInt 1, G20)))))) else (pj_nm (pj_ai G0 51 i.toInt.toNat) (fun z22 => pj_nm (F_105x G0 z22) (fun G24 => (Int32.ofInt 1, G24)))))))
theorem F_4x_e (G0 : pj_G) (i : Int32) : F_4x G0 i = pj_nm (pj_ai G0 50 i.toInt.toNat) (fun z1 => if z1.toInt = 99 then (pj_nm (pj_ai G0 51 i.toInt.toNat) (fun z3 => pj_nm (pj_ai G0 52 i.toInt.toNat) (fun z4 => pj_bd (F_104x G0 z3 z4) (fun y5 G6 => cond (pj_c1 .lt y5 0) ((Int32.ofInt 0, G6)) ((Int32.ofInt 1, G6)))))) else (if z1.toInt = 108 then (pj_nm (pj_ai G0 51 i.toInt.toNat) (fun z9 => pj_nm (pj_fi G0 21 7) (fun y10 => pj_nm (pj_ai G0 52 i.toInt.toNat) (fun z11 => pj_nm (y10 + z11) (fun z12 => pj_bd (F_103x G0 z9 z12) (fun y13 G14 => cond (pj_c1 .lt y13 (Int32.ofInt (-1))) ((Int32.ofInt 0, G14)) ((Int32.ofInt 1, G14)))))))) else (if z1.toInt = 116 then (pj_nm (pj_ai G0 51 i.toInt.toNat) (fun z17 => pj_nm (pj_ai G0 52 i.toInt.toNat) (fun z18 => pj_bd (F_102x G0 z17 z18) (fun y19 G20 => cond (pj_c1 .lt y19 0) ((Int32.ofInt 0, G20)) ((Int32.ofInt 1, G20)))))) else (pj_nm (pj_ai G0 51 i.toInt.toNat) (fun z22 => pj_nm (F_105x G0 z22) (fun G24 => (Int32.ofInt 1, G24))))))) := rfl
theorem ct_4x (G0 : pj_G) (hI : pj_Inv G0) (i : Int32) (ri : (0 : Int) ≤ i.toInt ∧ i.toInt ≤ 20) : pj_Y 7 4 [.ref 49, .ref 6, .int i] G0 (fun v' G' => ∃ y : Int32, v' = some (.int y) ∧ pj_Inv G' ∧ pj_kpt kc_4x G0 G' ∧ ((0 : Int) ≤ y.toInt ∧ y.toInt ≤ 1) ∧ ((y, G') = F_4x G0 i)) := by
  have c0_ : (Int32.ofInt (-1)).toInt = -1 := by decide
  have c1_ : (Int32.ofInt 0).toInt = 0 := by decide
  have c2_ : (Int32.ofInt 1).toInt = 1 := by decide
  refine pj_Y_X (M := pj_m4) rfl rfl (Nat.le_of_ble_eq_true rfl) ?_
  have hK : pj_kpt kc_4x G0 G0 := pj_kpt_r _ _
  show pj_X _ _ G0 0 [(0, .ref 49), (1, .ref 6), (2, .int i)] [] _
  rw [F_4x_e]
  refine pj_X_of (fun r h => pj_R_to (G0, 1, [(0, .ref 49), (1, .ref 6), (2, .int i)], [.ref 49], 0, 0) 1 2 (fun _ => rfl) h) ?_
  refine pj_X_of (fun r h => pj_T_gr hI rfl rfl rfl h) ?_
  refine pj_X_of (fun r h => pj_R_to (G0, 5, [(0, .ref 49), (1, .ref 6), (2, .int i)], [.int i, .ref 50], 0, 0) 5 2 (fun _ => rfl) h) ?_
  refine pj_X_of (fun r h => pj_T_il hI rfl rfl (by omega) (by omega) h) ?_
  show pj_X _ _ G0 6 [(0, .ref 49), (1, .ref 6), (2, .int i)] [.int (pj_ai G0 50 i.toInt.toNat)] _
  obtain ⟨z1, hz1⟩ : ∃ z : Int32, z = pj_ai G0 50 i.toInt.toNat := ⟨_, rfl⟩
  refine pj_X_eqi hz1.symm ?_
  rw [← hz1, pj_nm_e]
  have ez1 : (pj_ai G0 50 i.toInt.toNat).toInt = z1.toInt := by rw [hz1]
  by_cases t2 : z1.toInt = 99
  · refine pj_X_of (fun r h => pj_R_lw 99 rfl (n := 99) t2 rfl h) ?_
    rw [if_pos t2]
    refine pj_X_of (fun r h => pj_R_to (G0, 101, [(0, .ref 49), (1, .ref 6), (2, .int i)], [.ref 49, .ref 6], 0, 0) 101 3 (fun _ => rfl) h) ?_
    refine pj_X_of (fun r h => pj_T_gr hI rfl rfl rfl h) ?_
    refine pj_X_of (fun r h => pj_R_to (G0, 105, [(0, .ref 49), (1, .ref 6), (2, .int i)], [.int i, .ref 51, .ref 6], 0, 0) 105 2 (fun _ => rfl) h) ?_
    refine pj_X_of (fun r h => pj_T_il hI rfl rfl (by omega) (by omega) h) ?_
    show pj_X _ _ G0 106 [(0, .ref 49), (1, .ref 6), (2, .int i)] [.int (pj_ai G0 51 i.toInt.toNat), .ref 6] _
    obtain ⟨z3, hz3⟩ : ∃ z : Int32, z = pj_ai G0 51 i.toInt.toNat := ⟨_, rfl⟩
    refine pj_X_eqi hz3.symm ?_
    rw [← hz3, pj_nm_e]
    have ez3 : (pj_ai G0 51 i.toInt.toNat).toInt = z3.toInt := by rw [hz3]
    have fz3_0 : (0 : Int) ≤ z3.toInt ∧ z3.toInt ≤ 999 ∧ (z3.toInt ≤ 0 ∨ 0 ≤ z3.toInt) := by rw [hz3]; exact hI.2.2.1 51 (21, 0, 999, 0, 0) rfl _ (by show _ < 21; omega)
    refine pj_X_of (fun r h => pj_R_to (G0, 107, [(0, .ref 49), (1, .ref 6), (2, .int i)], [.ref 49, .int z3, .ref 6], 0, 0) 107 2 (fun _ => rfl) h) ?_
    refine pj_X_of (fun r h => pj_T_gr hI rfl rfl rfl h) ?_
    refine pj_X_of (fun r h => pj_R_to (G0, 111, [(0, .ref 49), (1, .ref 6), (2, .int i)], [.int i, .ref 52, .int z3, .ref 6], 0, 0) 111 2 (fun _ => rfl) h) ?_
    refine pj_X_of (fun r h => pj_T_il hI rfl rfl (by omega) (by omega) h) ?_
    show pj_X _ _ G0 112 [(0, .ref 49), (1, .ref 6), (2, .int i)] [.int (pj_ai G0 52 i.toInt.toNat), .int z3, .ref 6] _
    obtain ⟨z4, hz4⟩ : ∃ z : Int32, z = pj_ai G0 52 i.toInt.toNat := ⟨_, rfl⟩
    refine pj_X_eqi hz4.symm ?_
    rw [← hz4, pj_nm_e]
    have ez4 : (pj_ai G0 52 i.toInt.toNat).toInt = z4.toInt := by rw [hz4]
    refine pj_X_ca (vs := [.ref 6, .int z3, .int z4]) rfl (fun _ => rfl) ⟨Nat.le_of_ble_eq_true rfl, Nat.le_of_ble_eq_true rfl, pj_T_rcv hI rfl⟩ ⟨rfl, rfl⟩ (pj_Y_up (by decide) (ct_104x G0 hI z3 z4)) ?_
    rintro _ G6 ⟨y5, rfl, iG6, jG6, ry5, fy5⟩
    rw [← fy5, pj_bd_e]
    have kG6 : pj_kpt kc_4x G0 G6 := pj_kpt_t hK (pj_kpt_s jG6 rfl)
    show pj_X _ _ G6 115 [(0, .ref 49), (1, .ref 6), (2, .int i)] [.int y5] _
    cases b7 : pj_c1 .lt y5 0 with
    | true =>
      rw [pj_cT]
      have ub7 := pj_u0_ltT b7
      refine pj_X_of (fun r h => pj_R_ifT 122 rfl rfl b7 h) ?_
      refine pj_X_of (fun r h => pj_R_to (G6, 123, [(0, .ref 49), (1, .ref 6), (2, .int i)], [.int (Int32.ofInt 0)], 0, 0) 123 2 (fun _ => rfl) h) ?_
      exact pj_X_rt rfl rfl ⟨_, rfl, iG6, kG6, ⟨by omega, by omega⟩, rfl⟩
    | false =>
      rw [pj_cF]
      have ub7 := pj_u0_ltF b7
      refine pj_X_of (fun r h => pj_R_ifF rfl b7 h) ?_
      refine pj_X_of (fun r h => pj_R_to (G6, 123, [(0, .ref 49), (1, .ref 6), (2, .int i)], [.int (Int32.ofInt 1)], 0, 0) 123 3 (fun _ => rfl) h) ?_
      exact pj_X_rt rfl rfl ⟨_, rfl, iG6, kG6, ⟨by omega, by omega⟩, rfl⟩
  rw [if_neg t2]
  by_cases t8 : z1.toInt = 108
  · refine pj_X_of (fun r h => pj_R_lw 65 rfl (n := 108) t8 rfl h) ?_
    rw [if_pos t8]
    refine pj_X_of (fun r h => pj_R_to (G0, 67, [(0, .ref 49), (1, .ref 6), (2, .int i)], [.ref 49, .ref 6], 0, 0) 67 3 (fun _ => rfl) h) ?_
    refine pj_X_of (fun r h => pj_T_gr hI rfl rfl rfl h) ?_
    refine pj_X_of (fun r h => pj_R_to (G0, 71, [(0, .ref 49), (1, .ref 6), (2, .int i)], [.int i, .ref 51, .ref 6], 0, 0) 71 2 (fun _ => rfl) h) ?_
    refine pj_X_of (fun r h => pj_T_il hI rfl rfl (by omega) (by omega) h) ?_
    show pj_X _ _ G0 72 [(0, .ref 49), (1, .ref 6), (2, .int i)] [.int (pj_ai G0 51 i.toInt.toNat), .ref 6] _
    obtain ⟨z9, hz9⟩ : ∃ z : Int32, z = pj_ai G0 51 i.toInt.toNat := ⟨_, rfl⟩
    refine pj_X_eqi hz9.symm ?_
    rw [← hz9, pj_nm_e]
    have ez9 : (pj_ai G0 51 i.toInt.toNat).toInt = z9.toInt := by rw [hz9]
    have fz9_0 : (0 : Int) ≤ z9.toInt ∧ z9.toInt ≤ 999 ∧ (z9.toInt ≤ 0 ∨ 0 ≤ z9.toInt) := by rw [hz9]; exact hI.2.2.1 51 (21, 0, 999, 0, 0) rfl _ (by show _ < 21; omega)
    refine pj_X_of (fun r h => pj_R_to (G0, 73, [(0, .ref 49), (1, .ref 6), (2, .int i)], [.ref 6, .int z9, .ref 6], 0, 0) 73 2 (fun _ => rfl) h) ?_
    refine pj_X_of (fun r h => pj_T_gr hI rfl rfl rfl h) ?_
    refine pj_X_of (fun r h => pj_T_gi hI rfl rfl h) ?_
    show pj_X _ _ G0 79 [(0, .ref 49), (1, .ref 6), (2, .int i)] [.int (pj_fi G0 21 7), .int z9, .ref 6] _
    obtain ⟨y10, hy10⟩ : ∃ z : Int32, z = pj_fi G0 21 7 := ⟨_, rfl⟩
    refine pj_X_eqi hy10.symm ?_
    rw [← hy10, pj_nm_e]
    have ey10 : (pj_fi G0 21 7).toInt = y10.toInt := by rw [hy10]
    refine pj_X_of (fun r h => pj_R_to (G0, 80, [(0, .ref 49), (1, .ref 6), (2, .int i)], [.ref 49, .int y10, .int z9, .ref 6], 0, 0) 80 2 (fun _ => rfl) h) ?_
    refine pj_X_of (fun r h => pj_T_gr hI rfl rfl rfl h) ?_
    refine pj_X_of (fun r h => pj_R_to (G0, 84, [(0, .ref 49), (1, .ref 6), (2, .int i)], [.int i, .ref 52, .int y10, .int z9, .ref 6], 0, 0) 84 2 (fun _ => rfl) h) ?_
    refine pj_X_of (fun r h => pj_T_il hI rfl rfl (by omega) (by omega) h) ?_
    show pj_X _ _ G0 85 [(0, .ref 49), (1, .ref 6), (2, .int i)] [.int (pj_ai G0 52 i.toInt.toNat), .int y10, .int z9, .ref 6] _
    obtain ⟨z11, hz11⟩ : ∃ z : Int32, z = pj_ai G0 52 i.toInt.toNat := ⟨_, rfl⟩
    refine pj_X_eqi hz11.symm ?_
    rw [← hz11, pj_nm_e]
    have ez11 : (pj_ai G0 52 i.toInt.toNat).toInt = z11.toInt := by rw [hz11]
    refine pj_X_of (fun r h => pj_R_to (G0, 86, [(0, .ref 49), (1, .ref 6), (2, .int i)], [.int (y10 + z11), .int z9, .ref 6], 0, 0) 86 2 (fun _ => rfl) h) ?_
    obtain ⟨z12, hz12⟩ : ∃ z : Int32, z = y10 + z11 := ⟨_, rfl⟩
    refine pj_X_eqi hz12.symm ?_
    rw [← hz12, pj_nm_e]
    refine pj_X_ca (vs := [.ref 6, .int z9, .int z12]) rfl (fun _ => rfl) ⟨Nat.le_of_ble_eq_true rfl, Nat.le_of_ble_eq_true rfl, pj_T_rcv hI rfl⟩ ⟨rfl, rfl⟩ (pj_Y_up (by decide) (ct_103x G0 hI z9 z12)) ?_
    rintro _ G14 ⟨y13, rfl, iG14, jG14, ry13, fy13⟩
    rw [← fy13, pj_bd_e]
    have kG14 : pj_kpt kc_4x G0 G14 := pj_kpt_t hK (pj_kpt_s jG14 rfl)
    show pj_X _ _ G14 89 [(0, .ref 49), (1, .ref 6), (2, .int i)] [.int y13] _
    refine pj_X_of (fun r h => pj_R_to (G14, 90, [(0, .ref 49), (1, .ref 6), (2, .int i)], [.int (Int32.ofInt (-1)), .int y13], 0, 0) 90 2 (fun _ => rfl) h) ?_
    cases b15 : pj_c1 .lt y13 (Int32.ofInt (-1)) with
    | true =>
      rw [pj_cT]
      have ub15 := pj_u_ltT b15
      refine pj_X_of (fun r h => pj_R_icT 97 rfl rfl b15 h) ?_
      refine pj_X_of (fun r h => pj_R_to (G14, 98, [(0, .ref 49), (1, .ref 6), (2, .int i)], [.int (Int32.ofInt 0)], 0, 0) 98 2 (fun _ => rfl) h) ?_
      exact pj_X_rt rfl rfl ⟨_, rfl, iG14, kG14, ⟨by omega, by omega⟩, rfl⟩
    | false =>
      rw [pj_cF]
      have ub15 := pj_u_ltF b15
      refine pj_X_of (fun r h => pj_R_icF rfl b15 h) ?_
      refine pj_X_of (fun r h => pj_R_to (G14, 98, [(0, .ref 49), (1, .ref 6), (2, .int i)], [.int (Int32.ofInt 1)], 0, 0) 98 3 (fun _ => rfl) h) ?_
      exact pj_X_rt rfl rfl ⟨_, rfl, iG14, kG14, ⟨by omega, by omega⟩, rfl⟩
  rw [if_neg t8]
  by_cases t16 : z1.toInt = 116
  · refine pj_X_of (fun r h => pj_R_lw 40 rfl (n := 116) t16 rfl h) ?_
    rw [if_pos t16]
    refine pj_X_of (fun r h => pj_R_to (G0, 42, [(0, .ref 49), (1, .ref 6), (2, .int i)], [.ref 49, .ref 6], 0, 0) 42 3 (fun _ => rfl) h) ?_
    refine pj_X_of (fun r h => pj_T_gr hI rfl rfl rfl h) ?_
    refine pj_X_of (fun r h => pj_R_to (G0, 46, [(0, .ref 49), (1, .ref 6), (2, .int i)], [.int i, .ref 51, .ref 6], 0, 0) 46 2 (fun _ => rfl) h) ?_
    refine pj_X_of (fun r h => pj_T_il hI rfl rfl (by omega) (by omega) h) ?_
    show pj_X _ _ G0 47 [(0, .ref 49), (1, .ref 6), (2, .int i)] [.int (pj_ai G0 51 i.toInt.toNat), .ref 6] _
    obtain ⟨z17, hz17⟩ : ∃ z : Int32, z = pj_ai G0 51 i.toInt.toNat := ⟨_, rfl⟩
    refine pj_X_eqi hz17.symm ?_
    rw [← hz17, pj_nm_e]
    have ez17 : (pj_ai G0 51 i.toInt.toNat).toInt = z17.toInt := by rw [hz17]
    have fz17_0 : (0 : Int) ≤ z17.toInt ∧ z17.toInt ≤ 999 ∧ (z17.toInt ≤ 0 ∨ 0 ≤ z17.toInt) := by rw [hz17]; exact hI.2.2.1 51 (21, 0, 999, 0, 0) rfl _ (by show _ < 21; omega)
    refine pj_X_of (fun r h => pj_R_to (G0, 48, [(0, .ref 49), (1, .ref 6), (2, .int i)], [.ref 49, .int z17, .ref 6], 0, 0) 48 2 (fun _ => rfl) h) ?_
    refine pj_X_of (fun r h => pj_T_gr hI rfl rfl rfl h) ?_
    refine pj_X_of (fun r h => pj_R_to (G0, 52, [(0, .ref 49), (1, .ref 6), (2, .int i)], [.int i, .ref 52, .int z17, .ref 6], 0, 0) 52 2 (fun _ => rfl) h) ?_
    refine pj_X_of (fun r h => pj_T_il hI rfl rfl (by omega) (by omega) h) ?_
    show pj_X _ _ G0 53 [(0, .ref 49), (1, .ref 6), (2, .int i)] [.int (pj_ai G0 52 i.toInt.toNat), .int z17, .ref 6] _
    obtain ⟨z18, hz18⟩ : ∃ z : Int32, z = pj_ai G0 52 i.toInt.toNat := ⟨_, rfl⟩
    refine pj_X_eqi hz18.symm ?_
    rw [← hz18, pj_nm_e]
    have ez18 : (pj_ai G0 52 i.toInt.toNat).toInt = z18.toInt := by rw [hz18]
    refine pj_X_ca (vs := [.ref 6, .int z17, .int z18]) rfl (fun _ => rfl) ⟨Nat.le_of_ble_eq_true rfl, Nat.le_of_ble_eq_true rfl, pj_T_rcv hI rfl⟩ ⟨rfl, rfl⟩ (pj_Y_up (by decide) (ct_102x G0 hI z17 z18)) ?_
    rintro _ G20 ⟨y19, rfl, iG20, jG20, ry19, fy19⟩
    rw [← fy19, pj_bd_e]
    have kG20 : pj_kpt kc_4x G0 G20 := pj_kpt_t hK (pj_kpt_s jG20 rfl)
    show pj_X _ _ G20 56 [(0, .ref 49), (1, .ref 6), (2, .int i)] [.int y19] _
    cases b21 : pj_c1 .lt y19 0 with
    | true =>
      rw [pj_cT]
      have ub21 := pj_u0_ltT b21
      refine pj_X_of (fun r h => pj_R_ifT 63 rfl rfl b21 h) ?_
      refine pj_X_of (fun r h => pj_R_to (G20, 64, [(0, .ref 49), (1, .ref 6), (2, .int i)], [.int (Int32.ofInt 0)], 0, 0) 64 2 (fun _ => rfl) h) ?_
      exact pj_X_rt rfl rfl ⟨_, rfl, iG20, kG20, ⟨by omega, by omega⟩, rfl⟩
    | false =>
      rw [pj_cF]
      have ub21 := pj_u0_ltF b21
      refine pj_X_of (fun r h => pj_R_ifF rfl b21 h) ?_
      refine pj_X_of (fun r h => pj_R_to (G20, 64, [(0, .ref 49), (1, .ref 6), (2, .int i)], [.int (Int32.ofInt 1)], 0, 0) 64 3 (fun _ => rfl) h) ?_
      exact pj_X_rt rfl rfl ⟨_, rfl, iG20, kG20, ⟨by omega, by omega⟩, rfl⟩
  rw [if_neg t16]
  refine pj_X_of (fun r h => pj_R_ld 124 rfl ⟨by show ¬ (99 : Int) = _; omega, by show ¬ (108 : Int) = _; omega, by show ¬ (116 : Int) = _; omega, trivial⟩ rfl h) ?_
  refine pj_X_of (fun r h => pj_R_to (G0, 126, [(0, .ref 49), (1, .ref 6), (2, .int i)], [.ref 49, .ref 6], 0, 0) 126 3 (fun _ => rfl) h) ?_
  refine pj_X_of (fun r h => pj_T_gr hI rfl rfl rfl h) ?_
  refine pj_X_of (fun r h => pj_R_to (G0, 130, [(0, .ref 49), (1, .ref 6), (2, .int i)], [.int i, .ref 51, .ref 6], 0, 0) 130 2 (fun _ => rfl) h) ?_
  refine pj_X_of (fun r h => pj_T_il hI rfl rfl (by omega) (by omega) h) ?_
  show pj_X _ _ G0 131 [(0, .ref 49), (1, .ref 6), (2, .int i)] [.int (pj_ai G0 51 i.toInt.toNat), .ref 6] _
  obtain ⟨z22, hz22⟩ : ∃ z : Int32, z = pj_ai G0 51 i.toInt.toNat := ⟨_, rfl⟩
  refine pj_X_eqi hz22.symm ?_
  rw [← hz22, pj_nm_e]
  have ez22 : (pj_ai G0 51 i.toInt.toNat).toInt = z22.toInt := by rw [hz22]
  have fz22_0 : (0 : Int) ≤ z22.toInt ∧ z22.toInt ≤ 999 ∧ (z22.toInt ≤ 0 ∨ 0 ≤ z22.toInt) := by rw [hz22]; exact hI.2.2.1 51 (21, 0, 999, 0, 0) rfl _ (by show _ < 21; omega)
  refine pj_X_ca (vs := [.ref 6, .int z22]) rfl (fun _ => rfl) ⟨Nat.le_of_ble_eq_true rfl, Nat.le_of_ble_eq_true rfl, pj_T_rcv hI rfl⟩ ⟨rfl, rfl⟩ (pj_Y_up (by decide) (ct_105x G0 hI z22 ⟨by omega, by omega⟩)) ?_
  rintro _ G24 ⟨rfl, iG24, jG24, fy23⟩
  rw [← fy23, pj_nm_e]
  have kG24 : pj_kpt kc_4x G0 G24 := pj_kpt_t hK (pj_kpt_s jG24 rfl)
  show pj_X _ _ G24 134 [(0, .ref 49), (1, .ref 6), (2, .int i)] [] _
  refine pj_X_of (fun r h => pj_R_to (G24, 135, [(0, .ref 49), (1, .ref 6), (2, .int i)], [.int (Int32.ofInt 1)], 0, 0) 135 2 (fun _ => rfl) h) ?_
  exact pj_X_rt rfl rfl ⟨_, rfl, iG24, kG24, ⟨by omega, by omega⟩, rfl⟩
theorem fr_4x (G0 : pj_G) (hI : pj_Inv G0) (i : Int32) (ri : (0 : Int) ≤ i.toInt ∧ i.toInt ≤ 20) : pj_Inv (F_4x G0 i).2 ∧ pj_kpt kc_4x G0 (F_4x G0 i).2 ∧ ((0 : Int) ≤ (F_4x G0 i).1.toInt ∧ (F_4x G0 i).1.toInt ≤ 1) := by
  obtain ⟨v, G', -, y, -, i, j, r, e⟩ := ct_4x G0 hI i ri
  rw [← e]
  exact ⟨i, j, r⟩
def kc_3x : pj_KT := ([(6, 7), (6, 8), (21, 7), (21, 8)], [6, 21, 22, 23, 24, 25, 26, 30, 33], [22, 23, 24, 25, 26, 30, 33])
noncomputable def L_3x (G0 : pj_G) (fu : Nat) : Int32 → Int32 → pj_G → Int32 × pj_G := Nat.rec (motive := fun _ => Int32 → Int32 → pj_G → Int32 × pj_G) (fun _ _ G => (0, G)) (fun _ ih v2 v3 G => pj_nm (pj_fi G 49 3) (fun y1 => cond (pj_c1 .ge v3 y1) ((v2, G)) (cond (pj_c1 .ne v2 v3) ((v2, G)) (pj_bd (F_4x G v3) (fun y4 G5 => cond (pj_c1 .eq y4 0) (pj_nm (v2 + (Int32.ofInt 0)) (fun z7 => pj_nm (v3 + Int32.ofInt 1) (fun z8 => ih z7 z8 G5))) (pj_nm (v2 + (Int32.ofInt 1)) (fun z9 => pj_nm (v3 + Int32.ofInt 1) (fun z10 => ih z9 z10 G5)))))))) fu
theorem L_3x_s0 (G0 : pj_G) (fu : Nat) (v2 : Int32) (v3 : Int32) (G : pj_G) : L_3x G0 (fu + 1) v2 v3 G = pj_nm (pj_fi G 49 3) (fun y1 => cond (pj_c1 .ge v3 y1) ((v2, G)) (cond (pj_c1 .ne v2 v3) ((v2, G)) (pj_bd (F_4x G v3) (fun y4 G5 => cond (pj_c1 .eq y4 0) (pj_nm (v2 + (Int32.ofInt 0)) (fun z7 => pj_nm (v3 + Int32.ofInt 1) (fun z8 => L_3x G0 fu z7 z8 G5))) (pj_nm (v2 + (Int32.ofInt 1)) (fun z9 => pj_nm (v3 + Int32.ofInt 1) (fun z10 => L_3x G0 fu z9 z10 G5))))))) := rfl
noncomputable def F_3x (G0 : pj_G) : Int32 × pj_G := L_3x G0 22 (Int32.ofInt 0) (Int32.ofInt 0) G0
theorem F_3x_e (G0 : pj_G) : F_3x G0 = L_3x G0 22 (Int32.ofInt 0) (Int32.ofInt 0) G0 := rfl
theorem lp_ct_3x (G0 : pj_G) (hI0 : pj_Inv G0) : ∀ mn : Nat, (∀ (G : pj_G) (hI : pj_Inv G) (hK : pj_kpt kc_3x G0 G) (v2 : Int32) (v3 : Int32), ((0 : Int) ≤ v2.toInt ∧ v2.toInt ≤ 21) → ((0 : Int) ≤ v3.toInt ∧ v3.toInt ≤ 21) → (v2.toInt ≤ v3.toInt) → 21 - v3.toInt < (mn : Int) → pj_X 7 pj_m3 G 4 [(0, .ref 49), (1, .ref 6), (2, .int v2), (3, .int v3)] [] (fun v' G' => ∃ y : Int32, v' = some (.int y) ∧ pj_Inv G' ∧ pj_kpt kc_3x G0 G' ∧ ((0 : Int) ≤ y.toInt ∧ y.toInt ≤ 21) ∧ ((y, G') = L_3x G0 mn v2 v3 G))) := by
  have c0_ : (Int32.ofInt 0).toInt = 0 := by decide
  have c1_ : (Int32.ofInt 1).toInt = 1 := by decide
  intro mn
  induction mn with
  | zero =>
    intro G hI hK v2 v3 rv2 rv3 x0_ hm
    exfalso
    omega
  | succ mn ih =>
    intro G hI hK v2 v3 rv2 rv3 x0_ hm
    rw [L_3x_s0]
    refine pj_X_of (fun r h => pj_R_to (G, 6, [(0, .ref 49), (1, .ref 6), (2, .int v2), (3, .int v3)], [.ref 49, .int v3], 0, 0) 6 3 (fun _ => rfl) h) ?_
    refine pj_X_of (fun r h => pj_T_gi hI rfl rfl h) ?_
    show pj_X _ _ G 9 [(0, .ref 49), (1, .ref 6), (2, .int v2), (3, .int v3)] [.int (pj_fi G 49 3), .int v3] _
    obtain ⟨y1, hy1⟩ : ∃ z : Int32, z = pj_fi G 49 3 := ⟨_, rfl⟩
    refine pj_X_eqi hy1.symm ?_
    rw [← hy1, pj_nm_e]
    have ey1 : (pj_fi G 49 3).toInt = y1.toInt := by rw [hy1]
    have ry1 : (0 : Int) ≤ y1.toInt ∧ y1.toInt ≤ 21 := by rw [hy1]; exact hI.2.1 49 3 (0, 21) rfl
    cases b2 : pj_c1 .ge v3 y1 with
    | true =>
      rw [pj_cT]
      have ub2 := pj_u_geT b2
      refine pj_X_of (fun r h => pj_R_icT 40 rfl rfl b2 h) ?_
      refine pj_X_of (fun r h => pj_R_to (G, 41, [(0, .ref 49), (1, .ref 6), (2, .int v2), (3, .int v3)], [.int v2], 0, 0) 41 2 (fun _ => rfl) h) ?_
      exact pj_X_rt rfl rfl ⟨_, rfl, hI, hK, ⟨by omega, by omega⟩, rfl⟩
    | false =>
      rw [pj_cF]
      have ub2 := pj_u_geF b2
      refine pj_X_of (fun r h => pj_R_icF rfl b2 h) ?_
      refine pj_X_of (fun r h => pj_R_to (G, 14, [(0, .ref 49), (1, .ref 6), (2, .int v2), (3, .int v3)], [.int v3, .int v2], 0, 0) 14 3 (fun _ => rfl) h) ?_
      cases b3 : pj_c1 .ne v2 v3 with
      | true =>
        rw [pj_cT]
        have ub3 := pj_u_neT b3
        refine pj_X_of (fun r h => pj_R_icT 40 rfl rfl b3 h) ?_
        refine pj_X_of (fun r h => pj_R_to (G, 41, [(0, .ref 49), (1, .ref 6), (2, .int v2), (3, .int v3)], [.int v2], 0, 0) 41 2 (fun _ => rfl) h) ?_
        exact pj_X_rt rfl rfl ⟨_, rfl, hI, hK, ⟨by omega, by omega⟩, rfl⟩
      | false =>
        rw [pj_cF]
        have ub3 := pj_u_neF b3
        refine pj_X_of (fun r h => pj_R_icF rfl b3 h) ?_
        refine pj_X_of (fun r h => pj_R_to (G, 21, [(0, .ref 49), (1, .ref 6), (2, .int v2), (3, .int v3)], [.int v3, .ref 6, .ref 49, .int v2], 0, 0) 21 5 (fun _ => rfl) h) ?_
        refine pj_X_ca (vs := [.ref 49, .ref 6, .int v3]) rfl (fun _ => rfl) ⟨Nat.le_of_ble_eq_true rfl, Nat.le_of_ble_eq_true rfl, pj_T_rcv hI rfl⟩ ⟨rfl, rfl⟩ (pj_Y_up (by decide) (ct_4x G hI v3 ⟨by omega, by omega⟩)) ?_
        rintro _ G5 ⟨y4, rfl, iG5, jG5, ry4, fy4⟩
        rw [← fy4, pj_bd_e]
        have kG5 : pj_kpt kc_3x G0 G5 := pj_kpt_t hK (pj_kpt_s jG5 rfl)
        show pj_X _ _ G5 24 [(0, .ref 49), (1, .ref 6), (2, .int v2), (3, .int v3)] [.int y4, .int v2] _
        cases b6 : pj_c1 .eq y4 0 with
        | true =>
          rw [pj_cT]
          have ub6 := pj_u0_eqT b6
          refine pj_X_of (fun r h => pj_R_ifT 31 rfl rfl b6 h) ?_
          refine pj_X_of (fun r h => pj_R_to (G5, 33, [(0, .ref 49), (1, .ref 6), (2, .int v2), (3, .int v3)], [.int (v2 + (Int32.ofInt 0))], 0, 0) 33 3 (fun _ => rfl) h) ?_
          obtain ⟨z7, hz7⟩ : ∃ z : Int32, z = v2 + (Int32.ofInt 0) := ⟨_, rfl⟩
          refine pj_X_eqi hz7.symm ?_
          rw [← hz7, pj_nm_e]
          have fz7_0 : z7.toInt = v2.toInt + (Int32.ofInt 0).toInt := by rw [hz7]; exact pj_addI (by have := pj_i32 v2; have := pj_i32 (Int32.ofInt 0); omega) (by have := pj_i32 v2; have := pj_i32 (Int32.ofInt 0); omega)
          refine pj_X_of (fun r h => pj_R_to (G5, 37, [(3, .int (v3 + Int32.ofInt 1)), (2, .int z7), (0, .ref 49), (1, .ref 6)], [], 0, 0) 37 3 (fun _ => rfl) h) ?_
          obtain ⟨z8, hz8⟩ : ∃ z : Int32, z = v3 + Int32.ofInt 1 := ⟨_, rfl⟩
          rw [← hz8]
          rw [pj_nm_e]
          have fz8_0 : z8.toInt = v3.toInt + (Int32.ofInt 1).toInt := by rw [hz8]; exact pj_addI (by have := pj_i32 v3; have := pj_i32 (Int32.ofInt 1); omega) (by have := pj_i32 v3; have := pj_i32 (Int32.ofInt 1); omega)
          refine pj_X_of (fun r h => pj_R_to (G5, 4, [(3, .int z8), (2, .int z7), (0, .ref 49), (1, .ref 6)], [], 0, 0) 4 2 (fun _ => rfl) h) ?_
          exact pj_X_sub [(0, .ref 49), (1, .ref 6), (2, .int z7), (3, .int z8)] (show List.Nodup [0, 1, 2, 3] by decide) ⟨rfl, rfl, rfl, rfl, trivial⟩ (ih G5 iG5 kG5 z7 z8 ⟨by omega, by omega⟩ ⟨by omega, by omega⟩ (by omega) (by omega))
        | false =>
          rw [pj_cF]
          have ub6 := pj_u0_eqF b6
          refine pj_X_of (fun r h => pj_R_ifF rfl b6 h) ?_
          refine pj_X_of (fun r h => pj_R_to (G5, 33, [(0, .ref 49), (1, .ref 6), (2, .int v2), (3, .int v3)], [.int (v2 + (Int32.ofInt 1))], 0, 0) 33 4 (fun _ => rfl) h) ?_
          obtain ⟨z9, hz9⟩ : ∃ z : Int32, z = v2 + (Int32.ofInt 1) := ⟨_, rfl⟩
          refine pj_X_eqi hz9.symm ?_
          rw [← hz9, pj_nm_e]
          have fz9_0 : z9.toInt = v2.toInt + (Int32.ofInt 1).toInt := by rw [hz9]; exact pj_addI (by have := pj_i32 v2; have := pj_i32 (Int32.ofInt 1); omega) (by have := pj_i32 v2; have := pj_i32 (Int32.ofInt 1); omega)
          refine pj_X_of (fun r h => pj_R_to (G5, 37, [(3, .int (v3 + Int32.ofInt 1)), (2, .int z9), (0, .ref 49), (1, .ref 6)], [], 0, 0) 37 3 (fun _ => rfl) h) ?_
          obtain ⟨z10, hz10⟩ : ∃ z : Int32, z = v3 + Int32.ofInt 1 := ⟨_, rfl⟩
          rw [← hz10]
          rw [pj_nm_e]
          have fz10_0 : z10.toInt = v3.toInt + (Int32.ofInt 1).toInt := by rw [hz10]; exact pj_addI (by have := pj_i32 v3; have := pj_i32 (Int32.ofInt 1); omega) (by have := pj_i32 v3; have := pj_i32 (Int32.ofInt 1); omega)
          refine pj_X_of (fun r h => pj_R_to (G5, 4, [(3, .int z10), (2, .int z9), (0, .ref 49), (1, .ref 6)], [], 0, 0) 4 2 (fun _ => rfl) h) ?_
          exact pj_X_sub [(0, .ref 49), (1, .ref 6), (2, .int z9), (3, .int z10)] (show List.Nodup [0, 1, 2, 3] by decide) ⟨rfl, rfl, rfl, rfl, trivial⟩ (ih G5 iG5 kG5 z9 z10 ⟨by omega, by omega⟩ ⟨by omega, by omega⟩ (by omega) (by omega))
theorem ct_3x (G0 : pj_G) (hI : pj_Inv G0) : pj_Y 8 3 [.ref 49, .ref 6] G0 (fun v' G' => ∃ y : Int32, v' = some (.int y) ∧ pj_Inv G' ∧ pj_kpt kc_3x G0 G' ∧ ((0 : Int) ≤ y.toInt ∧ y.toInt ≤ 21) ∧ ((y, G') = F_3x G0)) := by
  have c0_ : (Int32.ofInt 0).toInt = 0 := by decide
  have c1_ : (Int32.ofInt 1).toInt = 1 := by decide
  refine pj_Y_X (M := pj_m3) rfl rfl (Nat.le_of_ble_eq_true rfl) ?_
  have hK : pj_kpt kc_3x G0 G0 := pj_kpt_r _ _
  show pj_X _ _ G0 0 [(0, .ref 49), (1, .ref 6)] [] _
  rw [F_3x_e]
  refine pj_X_of (fun r h => pj_R_to (G0, 4, [(3, .int (Int32.ofInt 0)), (2, .int (Int32.ofInt 0)), (0, .ref 49), (1, .ref 6)], [], 0, 0) 4 5 (fun _ => rfl) h) ?_
  exact pj_X_sub [(0, .ref 49), (1, .ref 6), (2, .int (Int32.ofInt 0)), (3, .int (Int32.ofInt 0))] (show List.Nodup [0, 1, 2, 3] by decide) ⟨rfl, rfl, rfl, rfl, trivial⟩ ((lp_ct_3x G0 hI   22) G0 hI hK (Int32.ofInt 0) (Int32.ofInt 0) ⟨by omega, by omega⟩ ⟨by omega, by omega⟩ (by omega) (by omega))
theorem fr_3x (G0 : pj_G) (hI : pj_Inv G0) : pj_Inv (F_3x G0).2 ∧ pj_kpt kc_3x G0 (F_3x G0).2 ∧ ((0 : Int) ≤ (F_3x G0).1.toInt ∧ (F_3x G0).1.toInt ≤ 21) := by
  obtain ⟨v, G', -, y, -, i, j, r, e⟩ := ct_3x G0 hI 
  rw [← e]
  exact ⟨i, j, r⟩
def kc_229x : pj_KT := ([(171, 17), (171, 39)], [171, 187, 188, 189], [187, 188, 189])
noncomputable def F_230x (G0 : pj_G) : Int32 × pj_G := pj_nm (pj_fi G0 171 39) (fun y1 => pj_bd (F_186_s15x G0) (fun y5 G6 => pj_nm (pj_wa G6 187 y1.toInt.toNat y5) (fun G10 => pj_nm (pj_fi G6 171 39) (fun y8 => pj_nm (y8 + (Int32.ofInt 1)) (fun z11 => pj_nm (pj_wv G10 171 39 (.int z11)) (fun G12 => pj_nm (pj_ai G12 187 y1.toInt.toNat) (fun z13 => cond (pj_c1 .ge z13 0) (cond (pj_c1 .ne z13 (Int32.ofInt 2)) (cond (pj_c1 .ne z13 (Int32.ofInt 3)) (pj_bd (F_187ex G12 (Int32.ofInt 1)) (fun y20 G21 => pj_nm (pj_wa G21 188 y1.toInt.toNat y20) (fun G25 => pj_nm (pj_ai G25 188 y1.toInt.toNat) (fun z26 => cond (pj_c1 .lt z26 0) ((Int32.ofInt 0, G25)) (pj_nm (pj_ai G25 187 y1.toInt.toNat) (fun z31 => cond (pj_c1 .ne z31 (Int32.ofInt 3)) (cond (pj_c1 .ne z31 0) (cond (pj_c1 .ne z31 (Int32.ofInt 1)) (pj_bd (F_187ex G25 (Int32.ofInt 1)) (fun y37 G38 => pj_nm (pj_wa G38 189 y1.toInt.toNat y37) (fun G42 => pj_nm (pj_ai G42 189 y1.toInt.toNat) (fun z43 => cond (pj_c1 .lt z43 0) ((Int32.ofInt 0, G42)) ((Int32.ofInt 1, G42)))))) (pj_bd (F_187ex G25 (Int32.ofInt 3)) (fun y52 G53 => pj_nm (pj_wa G53 189 y1.toInt.toNat y52) (fun G57 => pj_nm (pj_ai G57 189 y1.toInt.toNat) (fun z58 => cond (pj_c1 .lt z58 0) ((Int32.ofInt 0, G57)) ((Int32.ofInt 1, G57))))))) (pj_bd (F_183x G25 ((Int8.ofInt 45).toInt32)) (fun y67 G68 => cond (pj_c1 .eq y67 0) (pj_nm (pj_ai G68 187 y1.toInt.toNat) (fun z73 => cond (pj_c1 .ne z73 (Int32.ofInt 1)) (pj_bd (F_187ex G68 (Int32.ofInt 1)) (fun y77 G78 => pj_nm (pj_wa G78 189 y1.toInt.toNat y77) (fun G82 => pj_nm (pj_ai G82 189 y1.toInt.toNat) (fun z83 => cond (pj_c1 .lt z83 0) ((Int32.ofInt 0, G82)) ((Int32.ofInt 1, G82)))))) (pj_bd (F_187ex G68 (Int32.ofInt 3)) (fun y92 G93 => pj_nm (pj_wa G93 189 y1.toInt.toNat y92) (fun G97 => pj_nm (pj_ai G97 189 y1.toInt.toNat) (fun z98 => cond (pj_c1 .lt z98 0) ((Int32.ofInt 0, G97)) ((Int32.ofInt 1, G97)))))))) (pj_nm (pj_wa G68 189 y1.toInt.toNat (Int32.ofInt (-1))) (fun G105 => (Int32.ofInt 1, G105)))))) ((Int32.ofInt 1, G25)))))))) (pj_bd (F_187ex G12 (Int32.ofInt 2)) (fun y112 G113 => pj_nm (pj_wa G113 188 y1.toInt.toNat y112) (fun G117 => pj_nm (pj_ai G117 188 y1.toInt.toNat) (fun z118 => cond (pj_c1 .lt z118 0) ((Int32.ofInt 0, G117)) (pj_nm (pj_ai G117 187 y1.toInt.toNat) (fun z123 => cond (pj_c1 .ne z123 (Int32.ofInt 3)) (cond (pj_c1 .ne z123 0) (cond (pj_c1 .ne z123 (Int32.ofInt 1)) (pj_bd (F_187ex G117 (Int32.ofInt 1)) (fun y129 G130 => pj_nm (pj_wa G130 189 y1.toInt.toNat y129) (fun G134 => pj_nm (pj_ai G134 189 y1.toInt.toNat) (fun z135 => cond (pj_c1 .lt z135 0) ((Int32.ofInt 0, G134)) ((Int32.ofInt 1, G134)))))) (pj_bd (F_187ex G117 (Int32.ofInt 3)) (fun y144 G145 => pj_nm (pj_wa G145 189 y1.toInt.toNat y144) (fun G149 => pj_nm (pj_ai G149 189 y1.toInt.toNat) (fun z150 => cond (pj_c1 .lt z150 0) ((Int32.ofInt 0, G149)) ((Int32.ofInt 1, G149))))))) (pj_bd (F_183x G117 ((Int8.ofInt 45).toInt32)) (fun y159 G160 => cond (pj_c1 .eq y159 0) (pj_nm (pj_ai G160 187 y1.toInt.toNat) (fun z165 => cond (pj_c1 .ne z165 (Int32.ofInt 1)) (pj_bd (F_187ex G160 (Int32.ofInt 1)) (fun y169 G170 => pj_nm (pj_wa G170 189 y1.toInt.toNat y169) (fun G174 => pj_nm (pj_ai G174 189 y1.toInt.toNat) (fun z175 => cond (pj_c1 .lt z175 0) ((Int32.ofInt 0, G174)) ((Int32.ofInt 1, G174)))))) (pj_bd (F_187ex G160 (Int32.ofInt 3)) (fun y184 G185 => pj_nm (pj_wa G185 189 y1.toInt.toNat y184) (fun G189 => pj_nm (pj_ai G189 189 y1.toInt.toNat) (fun z190 => cond (pj_c1 .lt z190 0) ((Int32.ofInt 0, G189)) ((Int32.ofInt 1, G189)))))))) (pj_nm (pj_wa G160 189 y1.toInt.toNat (Int32.ofInt (-1))) (fun G197 => (Int32.ofInt 1, G197)))))) ((Int32.ofInt 1, G117))))))))) (pj_bd (F_188x G12 ((Int8.ofInt 6).toInt32)) (fun y204 G205 => pj_nm (pj_wa G205 188 y1.toInt.toNat y204) (fun G209 => pj_nm (pj_ai G209 188 y1.toInt.toNat) (fun z210 => cond (pj_c1 .lt z210 0) ((Int32.ofInt 0, G209)) (pj_nm (pj_ai G209 187 y1.toInt.toNat) (fun z215 => cond (pj_c1 .ne z215 (Int32.ofInt 3)) (cond (pj_c1 .ne z215 0) (cond (pj_c1 .ne z215 (Int32.ofInt 1)) (pj_bd (F_187ex G209 (Int32.ofInt 1)) (fun y221 G222 => pj_nm (pj_wa G222 189 y1.toInt.toNat y221) (fun G226 => pj_nm (pj_ai G226 189 y1.toInt.toNat) (fun z227 => cond (pj_c1 .lt z227 0) ((Int32.ofInt 0, G226)) ((Int32.ofInt 1, G226)))))) (pj_bd (F_187ex G209 (Int32.ofInt 3)) (fun y236 G237 => pj_nm (pj_wa G237 189 y1.toInt.toNat y236) (fun G241 => pj_nm (pj_ai G241 189 y1.toInt.toNat) (fun z242 => cond (pj_c1 .lt z242 0) ((Int32.ofInt 0, G241)) ((Int32.ofInt 1, G241))))))) (pj_bd (F_183x G209 ((Int8.ofInt 45).toInt32)) (fun y251 G252 => cond (pj_c1 .eq y251 0) (pj_nm (pj_ai G252 187 y1.toInt.toNat) (fun z257 => cond (pj_c1 .ne z257 (Int32.ofInt 1)) (pj_bd (F_187ex G252 (Int32.ofInt 1)) (fun y261 G262 => pj_nm (pj_wa G262 189 y1.toInt.toNat y261) (fun G266 => pj_nm (pj_ai G266 189 y1.toInt.toNat) (fun z267 => cond (pj_c1 .lt z267 0) ((Int32.ofInt 0, G266)) ((Int32.ofInt 1, G266)))))) (pj_bd (F_187ex G252 (Int32.ofInt 3)) (fun y276 G277 => pj_nm (pj_wa G277 189 y1.toInt.toNat y276) (fun G281 => pj_nm (pj_ai G281 189 y1.toInt.toNat) (fun z282 => cond (pj_c1 .lt z282 0) ((Int32.ofInt 0, G281)) ((Int32.ofInt 1, G281)))))))) (pj_nm (pj_wa G252 189 y1.toInt.toNat (Int32.ofInt (-1))) (fun G289 => (Int32.ofInt 1, G289)))))) ((Int32.ofInt 1, G209))))))))) ((Int32.ofInt 0, G12)))))))))
theorem F_230x_e (G0 : pj_G) : F_230x G0 = pj_nm (pj_fi G0 171 39) (fun y1 => pj_bd (F_186_s15x G0) (fun y5 G6 => pj_nm (pj_wa G6 187 y1.toInt.toNat y5) (fun G10 => pj_nm (pj_fi G6 171 39) (fun y8 => pj_nm (y8 + (Int32.ofInt 1)) (fun z11 => pj_nm (pj_wv G10 171 39 (.int z11)) (fun G12 => pj_nm (pj_ai G12 187 y1.toInt.toNat) (fun z13 => cond (pj_c1 .ge z13 0) (cond (pj_c1 .ne z13 (Int32.ofInt 2)) (cond (pj_c1 .ne z13 (Int32.ofInt 3)) (pj_bd (F_187ex G12 (Int32.ofInt 1)) (fun y20 G21 => pj_nm (pj_wa G21 188 y1.toInt.toNat y20) (fun G25 => pj_nm (pj_ai G25 188 y1.toInt.toNat) (fun z26 => cond (pj_c1 .lt z26 0) ((Int32.ofInt 0, G25)) (pj_nm (pj_ai G25 187 y1.toInt.toNat) (fun z31 => cond (pj_c1 .ne z31 (Int32.ofInt 3)) (cond (pj_c1 .ne z31 0) (cond (pj_c1 .ne z31 (Int32.ofInt 1)) (pj_bd (F_187ex G25 (Int32.ofInt 1)) (fun y37 G38 => pj_nm (pj_wa G38 189 y1.toInt.toNat y37) (fun G42 => pj_nm (pj_ai G42 189 y1.toInt.toNat) (fun z43 => cond (pj_c1 .lt z43 0) ((Int32.ofInt 0, G42)) ((Int32.ofInt 1, G42)))))) (pj_bd (F_187ex G25 (Int32.ofInt 3)) (fun y52 G53 => pj_nm (pj_wa G53 189 y1.toInt.toNat y52) (fun G57 => pj_nm (pj_ai G57 189 y1.toInt.toNat) (fun z58 => cond (pj_c1 .lt z58 0) ((Int32.ofInt 0, G57)) ((Int32.ofInt 1, G57))))))) (pj_bd (F_183x G25 ((Int8.ofInt 45).toInt32)) (fun y67 G68 => cond (pj_c1 .eq y67 0) (pj_nm (pj_ai G68 187 y1.toInt.toNat) (fun z73 => cond (pj_c1 .ne z73 (Int32.ofInt 1)) (pj_bd (F_187ex G68 (Int32.ofInt 1)) (fun y77 G78 => pj_nm (pj_wa G78 189 y1.toInt.toNat y77) (fun G82 => pj_nm (pj_ai G82 189 y1.toInt.toNat) (fun z83 => cond (pj_c1 .lt z83 0) ((Int32.ofInt 0, G82)) ((Int32.ofInt 1, G82)))))) (pj_bd (F_187ex G68 (Int32.ofInt 3)) (fun y92 G93 => pj_nm (pj_wa G93 189 y1.toInt.toNat y92) (fun G97 => pj_nm (pj_ai G97 189 y1.toInt.toNat) (fun z98 => cond (pj_c1 .lt z98 0) ((Int32.ofInt 0, G97)) ((Int32.ofInt 1, G97)))))))) (pj_nm (pj_wa G68 189 y1.toInt.toNat (Int32.ofInt (-1))) (fun G105 => (Int32.ofInt 1, G105)))))) ((Int32.ofInt 1, G25)))))))) (pj_bd (F_187ex G12 (Int32.ofInt 2)) (fun y112 G113 => pj_nm (pj_wa G113 188 y1.toInt.toNat y112) (fun G117 => pj_nm (pj_ai G117 188 y1.toInt.toNat) (fun z118 => cond (pj_c1 .lt z118 0) ((Int32.ofInt 0, G117)) (pj_nm (pj_ai G117 187 y1.toInt.toNat) (fun z123 => cond (pj_c1 .ne z123 (Int32.ofInt 3)) (cond (pj_c1 .ne z123 0) (cond (pj_c1 .ne z123 (Int32.ofInt 1)) (pj_bd (F_187ex G117 (Int32.ofInt 1)) (fun y129 G130 => pj_nm (pj_wa G130 189 y1.toInt.toNat y129) (fun G134 => pj_nm (pj_ai G134 189 y1.toInt.toNat) (fun z135 => cond (pj_c1 .lt z135 0) ((Int32.ofInt 0, G134)) ((Int32.ofInt 1, G134)))))) (pj_bd (F_187ex G117 (Int32.ofInt 3)) (fun y144 G145 => pj_nm (pj_wa G145 189 y1.toInt.toNat y144) (fun G149 => pj_nm (pj_ai G149 189 y1.toInt.toNat) (fun z150 => cond (pj_c1 .lt z150 0) ((Int32.ofInt 0, G149)) ((Int32.ofInt 1, G149))))))) (pj_bd (F_183x G117 ((Int8.ofInt 45).toInt32)) (fun y159 G160 => cond (pj_c1 .eq y159 0) (pj_nm (pj_ai G160 187 y1.toInt.toNat) (fun z165 => cond (pj_c1 .ne z165 (Int32.ofInt 1)) (pj_bd (F_187ex G160 (Int32.ofInt 1)) (fun y169 G170 => pj_nm (pj_wa G170 189 y1.toInt.toNat y169) (fun G174 => pj_nm (pj_ai G174 189 y1.toInt.toNat) (fun z175 => cond (pj_c1 .lt z175 0) ((Int32.ofInt 0, G174)) ((Int32.ofInt 1, G174)))))) (pj_bd (F_187ex G160 (Int32.ofInt 3)) (fun y184 G185 => pj_nm (pj_wa G185 189 y1.toInt.toNat y184) (fun G189 => pj_nm (pj_ai G189 189 y1.toInt.toNat) (fun z190 => cond (pj_c1 .lt z190 0) ((Int32.ofInt 0, G189)) ((Int32.ofInt 1, G189)))))))) (pj_nm (pj_wa G160 189 y1.toInt.toNat (Int32.ofInt (-1))) (fun G197 => (Int32.ofInt 1, G197)))))) ((Int32.ofInt 1, G117))))))))) (pj_bd (F_188x G12 ((Int8.ofInt 6).toInt32)) (fun y204 G205 => pj_nm (pj_wa G205 188 y1.toInt.toNat y204) (fun G209 => pj_nm (pj_ai G209 188 y1.toInt.toNat) (fun z210 => cond (pj_c1 .lt z210 0) ((Int32.ofInt 0, G209)) (pj_nm (pj_ai G209 187 y1.toInt.toNat) (fun z215 => cond (pj_c1 .ne z215 (Int32.ofInt 3)) (cond (pj_c1 .ne z215 0) (cond (pj_c1 .ne z215 (Int32.ofInt 1)) (pj_bd (F_187ex G209 (Int32.ofInt 1)) (fun y221 G222 => pj_nm (pj_wa G222 189 y1.toInt.toNat y221) (fun G226 => pj_nm (pj_ai G226 189 y1.toInt.toNat) (fun z227 => cond (pj_c1 .lt z227 0) ((Int32.ofInt 0, G226)) ((Int32.ofInt 1, G226)))))) (pj_bd (F_187ex G209 (Int32.ofInt 3)) (fun y236 G237 => pj_nm (pj_wa G237 189 y1.toInt.toNat y236) (fun G241 => pj_nm (pj_ai G241 189 y1.toInt.toNat) (fun z242 => cond (pj_c1 .lt z242 0) ((Int32.ofInt 0, G241)) ((Int32.ofInt 1, G241))))))) (pj_bd (F_183x G209 ((Int8.ofInt 45).toInt32)) (fun y251 G252 => cond (pj_c1 .eq y251 0) (pj_nm (pj_ai G252 187 y1.toInt.toNat) (fun z257 => cond (pj_c1 .ne z257 (Int32.ofInt 1)) (pj_bd (F_187ex G252 (Int32.ofInt 1)) (fun y261 G262 => pj_nm (pj_wa G262 189 y1.toInt.toNat y261) (fun G266 => pj_nm (pj_ai G266 189 y1.toInt.toNat) (fun z267 => cond (pj_c1 .lt z267 0) ((Int32.ofInt 0, G266)) ((Int32.ofInt 1, G266)))))) (pj_bd (F_187ex G252 (Int32.ofInt 3)) (fun y276 G277 => pj_nm (pj_wa G277 189 y1.toInt.toNat y276) (fun G281 => pj_nm (pj_ai G281 189 y1.toInt.toNat) (fun z282 => cond (pj_c1 .lt z282 0) ((Int32.ofInt 0, G281)) ((Int32.ofInt 1, G281)))))))) (pj_nm (pj_wa G252 189 y1.toInt.toNat (Int32.ofInt (-1))) (fun G289 => (Int32.ofInt 1, G289)))))) ((Int32.ofInt 1, G209))))))))) ((Int32.ofInt 0, G12))))))))) := rfl
set_option maxHeartbeats 4000000 in
theorem ct_229x (G0 : pj_G) (hI : pj_Inv G0) (p0_ : (pj_fi G0 171 39).toInt ≤ 59) : pj_Y 17 229 [.ref 171] G0 (fun v' G' => ∃ y : Int32, v' = some (.int y) ∧ pj_Inv G' ∧ pj_kpt kc_229x G0 G' ∧ ((0 : Int) ≤ y.toInt ∧ y.toInt ≤ 1) ∧ (∀ H, G0 = H → ((pj_fi G' 171 39).toInt = (pj_fi H 171 39).toInt + 1 ∧ (pj_fi H 171 17).toInt ≤ (pj_fi G' 171 17).toInt ∧ (1 ≤ y.toInt → (pj_fi H 171 17).toInt + 1 ≤ (pj_fi G' 171 17).toInt))) ∧ ((y, G') = F_230x G0)) := by
  have c0_ : ((Int8.ofInt 45).toInt32).toInt = 45 := by decide
  have c1_ : ((Int8.ofInt 6).toInt32).toInt = 6 := by decide
  have c2_ : (Int32.ofInt (-1)).toInt = -1 := by decide
  have c3_ : (Int32.ofInt 0).toInt = 0 := by decide
  have c4_ : (Int32.ofInt 1).toInt = 1 := by decide
  have c5_ : (Int32.ofInt 2).toInt = 2 := by decide
  have c6_ : (Int32.ofInt 3).toInt = 3 := by decide
  refine pj_Y_X (M := pj_m229) rfl rfl (Nat.le_of_ble_eq_true rfl) ?_
  have hK : pj_kpt kc_229x G0 G0 := pj_kpt_r _ _
  show pj_X _ _ G0 0 [(0, .ref 171)] [] _
  rw [F_230x_e]
  obtain ⟨y1, hy1⟩ : ∃ z : Int32, z = pj_fi G0 171 39 := ⟨_, rfl⟩
  have ey1 : (pj_fi G0 171 39).toInt = y1.toInt := by rw [hy1]
  have ry1 : (0 : Int) ≤ y1.toInt ∧ y1.toInt ≤ 60 := by rw [hy1]; exact hI.2.1 171 39 (0, 60) rfl
  obtain ⟨y2, hy2⟩ : ∃ z : Int32, z = pj_fi G0 171 17 := ⟨_, rfl⟩
  have ey2 : (pj_fi G0 171 17).toInt = y2.toInt := by rw [hy2]
  have ry2 : (0 : Int) ≤ y2.toInt ∧ y2.toInt ≤ 80 := by rw [hy2]; exact hI.2.1 171 17 (0, 80) rfl
  refine pj_X_of (fun r h => pj_R_to (G0, 1, [(0, .ref 171)], [.ref 171], 0, 0) 1 2 (fun _ => rfl) h) ?_
  refine pj_X_of (fun r h => pj_T_gi hI rfl rfl h) ?_
  show pj_X _ _ G0 4 [(0, .ref 171)] [.int (pj_fi G0 171 39)] _
  rw [← hy1, pj_nm_e]
  refine pj_X_of (fun r h => pj_R_to (G0, 6, [(1, .int y1), (0, .ref 171)], [.ref 171], 0, 0) 6 3 (fun _ => rfl) h) ?_
  refine pj_X_of (fun r h => pj_T_gr hI rfl rfl rfl h) ?_
  refine pj_X_of (fun r h => pj_R_to (G0, 14, [(1, .int y1), (0, .ref 171)], [.retAddr 15, .ref 171, .int y1, .ref 187], 0, 0) 14 4 (fun _ => rfl) h) ?_
  have q3 : (pj_fi G0 171 39).toInt = y1.toInt := by rw [show pj_fi G0 171 39 = y1 from hy1.symm]
  have q4 : (pj_fi G0 171 17).toInt = y2.toInt := by rw [show pj_fi G0 171 17 = y2 from hy2.symm]
  refine pj_X_ca (vs := [.ref 171, .retAddr 15]) rfl (fun _ => rfl) ⟨Nat.le_of_ble_eq_true rfl, Nat.le_of_ble_eq_true rfl, pj_T_rcv hI rfl⟩ ⟨rfl, rfl⟩ (pj_Y_up (by decide) (ct_185_s15x G0 hI)) ?_
  rintro _ G6 ⟨y5, rfl, iG6, jG6, ry5, ey5, fy5⟩
  replace ey5 := (ey5 _ rfl).1
  rw [← fy5, pj_bd_e]
  have kG6 : pj_kpt kc_229x G0 G6 := pj_kpt_t hK (pj_kpt_s jG6 rfl)
  have q7 : (pj_fi G6 171 39).toInt = (pj_fi G0 171 39).toInt := by rw [jG6.1 (171, 39) (by decide)]
  obtain ⟨y8, hy8⟩ : ∃ z : Int32, z = pj_fi G6 171 39 := ⟨_, rfl⟩
  have ey8 : (pj_fi G6 171 39).toInt = y8.toInt := by rw [hy8]
  have ry8 : (0 : Int) ≤ y8.toInt ∧ y8.toInt ≤ 60 := by rw [hy8]; exact iG6.2.1 171 39 (0, 60) rfl
  obtain ⟨y9, hy9⟩ : ∃ z : Int32, z = pj_fi G6 171 17 := ⟨_, rfl⟩
  have ey9 : (pj_fi G6 171 17).toInt = y9.toInt := by rw [hy9]
  have ry9 : (0 : Int) ≤ y9.toInt ∧ y9.toInt ≤ 80 := by rw [hy9]; exact iG6.2.1 171 17 (0, 80) rfl
  show pj_X _ _ G6 17 [(1, .int y1), (0, .ref 171)] [.int y5, .int y1, .ref 187] _
  refine pj_X_of (fun r h => pj_T_is iG6 rfl rfl (by omega) (by omega) h) ?_
  show pj_X _ _ (pj_wa G6 187 y1.toInt.toNat y5) 18 [(1, .int y1), (0, .ref 171)] [] _
  obtain ⟨G10, hG10⟩ : ∃ H, H = pj_wa G6 187 y1.toInt.toNat y5 := ⟨_, rfl⟩
  have iG10 : pj_Inv G10 := by rw [hG10]; exact pj_Inv_wa iG6 rfl (fun q hq => by cases hq) (fun n hn => by cases hn)
  have kG10 : pj_kpt kc_229x G0 G10 := by rw [hG10]; exact pj_kpt_a kG6 rfl
  rw [← hG10]
  rw [pj_nm_e]
  refine pj_X_of (fun r h => pj_R_to (G10, 20, [(1, .int y1), (0, .ref 171)], [.ref 171, .ref 171], 0, 0) 20 3 (fun _ => rfl) h) ?_
  refine pj_X_of (fun r h => pj_T_gi iG10 rfl rfl h) ?_
  show pj_X _ _ G10 23 [(1, .int y1), (0, .ref 171)] [.int (pj_fi G10 171 39), .ref 171] _
  rw [← hy8, pj_nm_e]
  refine pj_X_eqi (show pj_fi G10 171 39 = y8 from by rw [hG10, pj_fi_wa]; exact hy8.symm) ?_
  refine pj_X_of (fun r h => pj_R_to (G10, 25, [(1, .int y1), (0, .ref 171)], [.int (y8 + (Int32.ofInt 1)), .ref 171], 0, 0) 25 3 (fun _ => rfl) h) ?_
  obtain ⟨z11, hz11⟩ : ∃ z : Int32, z = y8 + (Int32.ofInt 1) := ⟨_, rfl⟩
  refine pj_X_eqi hz11.symm ?_
  rw [← hz11, pj_nm_e]
  have fz11_0 : z11.toInt = y8.toInt + (Int32.ofInt 1).toInt := by rw [hz11]; exact pj_addI (by have := pj_i32 y8; have := pj_i32 (Int32.ofInt 1); omega) (by have := pj_i32 y8; have := pj_i32 (Int32.ofInt 1); omega)
  refine pj_X_of (fun r h => pj_T_pf iG10 rfl rfl rfl h) ?_
  show pj_X _ _ (pj_wv G10 171 39 (.int z11)) 28 [(1, .int y1), (0, .ref 171)] [] _
  obtain ⟨G12, hG12⟩ : ∃ H, H = pj_wv G10 171 39 (.int z11) := ⟨_, rfl⟩
  have iG12 : pj_Inv G12 := by rw [hG12]; exact pj_Inv_wi iG10 (ci := 12) rfl (fun q hq => by cases hq; exact ⟨by show (0 : Int) ≤ _; omega, by show _ ≤ (60 : Int); omega⟩)
  have kG12 : pj_kpt kc_229x G0 G12 := by rw [hG12]; exact pj_kpt_v kG10 rfl
  rw [← hG12]
  rw [pj_nm_e]
  refine pj_X_of (fun r h => pj_R_to (G12, 29, [(1, .int y1), (0, .ref 171)], [.ref 171], 0, 0) 29 2 (fun _ => rfl) h) ?_
  refine pj_X_of (fun r h => pj_T_gr iG12 rfl rfl rfl h) ?_
  refine pj_X_of (fun r h => pj_R_to (G12, 33, [(1, .int y1), (0, .ref 171)], [.int y1, .ref 187], 0, 0) 33 2 (fun _ => rfl) h) ?_
  refine pj_X_of (fun r h => pj_T_il iG12 rfl rfl (by omega) (by omega) h) ?_
  show pj_X _ _ G12 34 [(1, .int y1), (0, .ref 171)] [.int (pj_ai G12 187 y1.toInt.toNat)] _
  obtain ⟨z13, hz13⟩ : ∃ z : Int32, z = pj_ai G12 187 y1.toInt.toNat := ⟨_, rfl⟩
  refine pj_X_eqi hz13.symm ?_
  rw [← hz13, pj_nm_e]
  have ez13 : (pj_ai G12 187 y1.toInt.toNat).toInt = z13.toInt := by rw [hz13]
  have x14 : z13.toInt = y5.toInt := by rw [hz13, hG12, pj_ai_wv, show y1.toInt.toNat = y1.toInt.toNat by omega, hG10, pj_ai_wa_eq iG6.1 rfl]
  cases b15 : pj_c1 .ge z13 0 with
  | true =>
    rw [pj_cT]
    have ub15 := pj_u0_geT b15
    refine pj_X_of (fun r h => pj_R_ifT 39 rfl rfl b15 h) ?_
    refine pj_X_of (fun r h => pj_R_to (G12, 40, [(1, .int y1), (0, .ref 171)], [.ref 171], 0, 0) 40 2 (fun _ => rfl) h) ?_
    refine pj_X_of (fun r h => pj_T_gr iG12 rfl rfl rfl h) ?_
    refine pj_X_of (fun r h => pj_R_to (G12, 45, [(1, .int y1), (0, .ref 171)], [.ref 171, .int y1, .ref 188], 0, 0) 45 3 (fun _ => rfl) h) ?_
    refine pj_X_of (fun r h => pj_T_gr iG12 rfl rfl rfl h) ?_
    refine pj_X_of (fun r h => pj_R_to (G12, 49, [(1, .int y1), (0, .ref 171)], [.int y1, .ref 187, .int y1, .ref 188], 0, 0) 49 2 (fun _ => rfl) h) ?_
    refine pj_X_of (fun r h => pj_T_il iG12 rfl rfl (by omega) (by omega) h) ?_
    show pj_X _ _ G12 50 [(1, .int y1), (0, .ref 171)] [.int (pj_ai G12 187 y1.toInt.toNat), .int y1, .ref 188] _
    refine pj_X_eqi hz13.symm ?_
    refine pj_X_of (fun r h => pj_R_to (G12, 51, [(1, .int y1), (0, .ref 171)], [.int (Int32.ofInt 2), .int z13, .int y1, .ref 188], 0, 0) 51 2 (fun _ => rfl) h) ?_
    cases b16 : pj_c1 .ne z13 (Int32.ofInt 2) with
    | true =>
      rw [pj_cT]
      have ub16 := pj_u_neT b16
      refine pj_X_of (fun r h => pj_R_icT 63 rfl rfl b16 h) ?_
      refine pj_X_of (fun r h => pj_R_to (G12, 65, [(1, .int y1), (0, .ref 171)], [.ref 171, .ref 171, .int y1, .ref 188], 0, 0) 65 3 (fun _ => rfl) h) ?_
      refine pj_X_of (fun r h => pj_T_gr iG12 rfl rfl rfl h) ?_
      refine pj_X_of (fun r h => pj_R_to (G12, 69, [(1, .int y1), (0, .ref 171)], [.int y1, .ref 187, .ref 171, .int y1, .ref 188], 0, 0) 69 2 (fun _ => rfl) h) ?_
      refine pj_X_of (fun r h => pj_T_il iG12 rfl rfl (by omega) (by omega) h) ?_
      show pj_X _ _ G12 70 [(1, .int y1), (0, .ref 171)] [.int (pj_ai G12 187 y1.toInt.toNat), .ref 171, .int y1, .ref 188] _
      refine pj_X_eqi hz13.symm ?_
      refine pj_X_of (fun r h => pj_R_to (G12, 71, [(1, .int y1), (0, .ref 171)], [.int (Int32.ofInt 3), .int z13, .ref 171, .int y1, .ref 188], 0, 0) 71 2 (fun _ => rfl) h) ?_
      cases b17 : pj_c1 .ne z13 (Int32.ofInt 3) with
      | true =>
        rw [pj_cT]
        have ub17 := pj_u_neT b17
        refine pj_X_of (fun r h => pj_R_icT 78 rfl rfl b17 h) ?_
        refine pj_X_of (fun r h => pj_R_to (G12, 79, [(1, .int y1), (0, .ref 171)], [.int (Int32.ofInt 1), .ref 171, .int y1, .ref 188], 0, 0) 79 2 (fun _ => rfl) h) ?_
        have q18 : (pj_fi G12 171 39).toInt = z11.toInt := by rw [show pj_fi G12 171 39 = z11 from by rw [hG12]; exact pj_fi_wi iG10.1 (ci := 12) rfl _]
        have q19 : (pj_fi G12 171 17).toInt = y9.toInt := by rw [show pj_fi G12 171 17 = y9 from by rw [hG12, pj_fi_wv_ne _ _ _ _ _ _ (by decide)]; exact (by rw [hG10, pj_fi_wa]; exact hy9.symm)]
        refine pj_X_ca (vs := [.ref 171, .int (Int32.ofInt 1)]) rfl (fun _ => rfl) ⟨Nat.le_of_ble_eq_true rfl, Nat.le_of_ble_eq_true rfl, pj_T_rcv iG12 rfl⟩ ⟨rfl, rfl⟩ (pj_Y_up (by decide) (ct_186ex G12 iG12 (Int32.ofInt 1) ⟨by omega, by omega⟩)) ?_
        rintro _ G21 ⟨y20, rfl, iG21, jG21, ry20, ey20, fy20⟩
        replace ey20 := And.intro (ey20 _ rfl).2.2.1 (ey20 _ rfl).2.2.2.1
        rw [← fy20, pj_bd_e]
        have kG21 : pj_kpt kc_229x G0 G21 := pj_kpt_t kG12 (pj_kpt_s jG21 rfl)
        have q22 : (pj_fi G21 171 39).toInt = (pj_fi G12 171 39).toInt := by rw [jG21.1 (171, 39) (by decide)]
        obtain ⟨y23, hy23⟩ : ∃ z : Int32, z = pj_fi G21 171 39 := ⟨_, rfl⟩
        have ey23 : (pj_fi G21 171 39).toInt = y23.toInt := by rw [hy23]
        have ry23 : (0 : Int) ≤ y23.toInt ∧ y23.toInt ≤ 60 := by rw [hy23]; exact iG21.2.1 171 39 (0, 60) rfl
        obtain ⟨y24, hy24⟩ : ∃ z : Int32, z = pj_fi G21 171 17 := ⟨_, rfl⟩
        have ey24 : (pj_fi G21 171 17).toInt = y24.toInt := by rw [hy24]
        have ry24 : (0 : Int) ≤ y24.toInt ∧ y24.toInt ≤ 80 := by rw [hy24]; exact iG21.2.1 171 17 (0, 80) rfl
        show pj_X _ _ G21 82 [(1, .int y1), (0, .ref 171)] [.int y20, .int y1, .ref 188] _
        refine pj_X_of (fun r h => pj_T_is iG21 rfl rfl (by omega) (by omega) h) ?_
        show pj_X _ _ (pj_wa G21 188 y1.toInt.toNat y20) 83 [(1, .int y1), (0, .ref 171)] [] _
        obtain ⟨G25, hG25⟩ : ∃ H, H = pj_wa G21 188 y1.toInt.toNat y20 := ⟨_, rfl⟩
        have iG25 : pj_Inv G25 := by rw [hG25]; exact pj_Inv_wa iG21 rfl (fun q hq => by cases hq) (fun n hn => by cases hn)
        have kG25 : pj_kpt kc_229x G0 G25 := by rw [hG25]; exact pj_kpt_a kG21 rfl
        rw [← hG25]
        rw [pj_nm_e]
        refine pj_X_of (fun r h => pj_R_to (G25, 84, [(1, .int y1), (0, .ref 171)], [.ref 171], 0, 0) 84 2 (fun _ => rfl) h) ?_
        refine pj_X_of (fun r h => pj_T_gr iG25 rfl rfl rfl h) ?_
        refine pj_X_of (fun r h => pj_R_to (G25, 88, [(1, .int y1), (0, .ref 171)], [.int y1, .ref 188], 0, 0) 88 2 (fun _ => rfl) h) ?_
        refine pj_X_of (fun r h => pj_T_il iG25 rfl rfl (by omega) (by omega) h) ?_
        show pj_X _ _ G25 89 [(1, .int y1), (0, .ref 171)] [.int (pj_ai G25 188 y1.toInt.toNat)] _
        obtain ⟨z26, hz26⟩ : ∃ z : Int32, z = pj_ai G25 188 y1.toInt.toNat := ⟨_, rfl⟩
        refine pj_X_eqi hz26.symm ?_
        rw [← hz26, pj_nm_e]
        have ez26 : (pj_ai G25 188 y1.toInt.toNat).toInt = z26.toInt := by rw [hz26]
        have x27 : z26.toInt = y20.toInt := by rw [hz26, show y1.toInt.toNat = y1.toInt.toNat by omega, hG25, pj_ai_wa_eq iG21.1 rfl]
        cases b28 : pj_c1 .lt z26 0 with
        | true =>
          rw [pj_cT]
          have ub28 := pj_u0_ltT b28
          refine pj_X_of (fun r h => pj_R_ifT 102 rfl rfl b28 h) ?_
          refine pj_X_of (fun r h => pj_R_to (G25, 103, [(1, .int y1), (0, .ref 171)], [.ref 171], 0, 0) 103 2 (fun _ => rfl) h) ?_
          refine pj_X_of (fun r h => pj_T_gr iG25 rfl rfl rfl h) ?_
          refine pj_X_of (fun r h => pj_R_to (G25, 107, [(1, .int y1), (0, .ref 171)], [.int y1, .ref 188], 0, 0) 107 2 (fun _ => rfl) h) ?_
          refine pj_X_of (fun r h => pj_T_il iG25 rfl rfl (by omega) (by omega) h) ?_
          show pj_X _ _ G25 108 [(1, .int y1), (0, .ref 171)] [.int (pj_ai G25 188 y1.toInt.toNat)] _
          refine pj_X_eqi hz26.symm ?_
          refine pj_X_of (fun r h => pj_R_ifT 115 rfl rfl (pj_b0_ltT (by omega)) h) ?_
          refine pj_X_of (fun r h => pj_R_to (G25, 116, [(1, .int y1), (0, .ref 171)], [.int (Int32.ofInt 0)], 0, 0) 116 2 (fun _ => rfl) h) ?_
          have q29 : (pj_fi G25 171 39).toInt = y23.toInt := by rw [show pj_fi G25 171 39 = y23 from by rw [hG25, pj_fi_wa]; exact hy23.symm]
          have q30 : (pj_fi G25 171 17).toInt = y24.toInt := by rw [show pj_fi G25 171 17 = y24 from by rw [hG25, pj_fi_wa]; exact hy24.symm]
          exact pj_X_rt rfl rfl ⟨_, rfl, iG25, kG25, ⟨by omega, by omega⟩, (fun H hH => by subst hH; exact (by omega)), rfl⟩
        | false =>
          rw [pj_cF]
          have ub28 := pj_u0_ltF b28
          refine pj_X_of (fun r h => pj_R_ifF rfl b28 h) ?_
          refine pj_X_of (fun r h => pj_R_to (G25, 93, [(1, .int y1), (0, .ref 171)], [.ref 171], 0, 0) 93 2 (fun _ => rfl) h) ?_
          refine pj_X_of (fun r h => pj_T_gr iG25 rfl rfl rfl h) ?_
          refine pj_X_of (fun r h => pj_R_to (G25, 97, [(1, .int y1), (0, .ref 171)], [.int y1, .ref 187], 0, 0) 97 2 (fun _ => rfl) h) ?_
          refine pj_X_of (fun r h => pj_T_il iG25 rfl rfl (by omega) (by omega) h) ?_
          show pj_X _ _ G25 98 [(1, .int y1), (0, .ref 171)] [.int (pj_ai G25 187 y1.toInt.toNat)] _
          obtain ⟨z31, hz31⟩ : ∃ z : Int32, z = pj_ai G25 187 y1.toInt.toNat := ⟨_, rfl⟩
          refine pj_X_eqi hz31.symm ?_
          rw [← hz31, pj_nm_e]
          have ez31 : (pj_ai G25 187 y1.toInt.toNat).toInt = z31.toInt := by rw [hz31]
          refine pj_X_of (fun r h => pj_R_to (G25, 99, [(1, .int y1), (0, .ref 171)], [.int (Int32.ofInt 3), .int z31], 0, 0) 99 2 (fun _ => rfl) h) ?_
          cases b32 : pj_c1 .ne z31 (Int32.ofInt 3) with
          | true =>
            rw [pj_cT]
            have ub32 := pj_u_neT b32
            refine pj_X_of (fun r h => pj_R_icT 117 rfl rfl b32 h) ?_
            refine pj_X_of (fun r h => pj_R_to (G25, 118, [(1, .int y1), (0, .ref 171)], [.ref 171], 0, 0) 118 2 (fun _ => rfl) h) ?_
            refine pj_X_of (fun r h => pj_T_gr iG25 rfl rfl rfl h) ?_
            refine pj_X_of (fun r h => pj_R_to (G25, 122, [(1, .int y1), (0, .ref 171)], [.int y1, .ref 187], 0, 0) 122 2 (fun _ => rfl) h) ?_
            refine pj_X_of (fun r h => pj_T_il iG25 rfl rfl (by omega) (by omega) h) ?_
            show pj_X _ _ G25 123 [(1, .int y1), (0, .ref 171)] [.int (pj_ai G25 187 y1.toInt.toNat)] _
            refine pj_X_eqi hz31.symm ?_
            cases b33 : pj_c1 .ne z31 0 with
            | true =>
              rw [pj_cT]
              have ub33 := pj_u0_neT b33
              refine pj_X_of (fun r h => pj_R_ifT 144 rfl rfl b33 h) ?_
              refine pj_X_of (fun r h => pj_R_to (G25, 145, [(1, .int y1), (0, .ref 171)], [.ref 171], 0, 0) 145 2 (fun _ => rfl) h) ?_
              refine pj_X_of (fun r h => pj_T_gr iG25 rfl rfl rfl h) ?_
              refine pj_X_of (fun r h => pj_R_to (G25, 151, [(1, .int y1), (0, .ref 171)], [.ref 171, .ref 171, .int y1, .ref 189], 0, 0) 151 4 (fun _ => rfl) h) ?_
              refine pj_X_of (fun r h => pj_T_gr iG25 rfl rfl rfl h) ?_
              refine pj_X_of (fun r h => pj_R_to (G25, 155, [(1, .int y1), (0, .ref 171)], [.int y1, .ref 187, .ref 171, .int y1, .ref 189], 0, 0) 155 2 (fun _ => rfl) h) ?_
              refine pj_X_of (fun r h => pj_T_il iG25 rfl rfl (by omega) (by omega) h) ?_
              show pj_X _ _ G25 156 [(1, .int y1), (0, .ref 171)] [.int (pj_ai G25 187 y1.toInt.toNat), .ref 171, .int y1, .ref 189] _
              refine pj_X_eqi hz31.symm ?_
              refine pj_X_of (fun r h => pj_R_to (G25, 157, [(1, .int y1), (0, .ref 171)], [.int (Int32.ofInt 1), .int z31, .ref 171, .int y1, .ref 189], 0, 0) 157 2 (fun _ => rfl) h) ?_
              cases b34 : pj_c1 .ne z31 (Int32.ofInt 1) with
              | true =>
                rw [pj_cT]
                have ub34 := pj_u_neT b34
                refine pj_X_of (fun r h => pj_R_icT 164 rfl rfl b34 h) ?_
                refine pj_X_of (fun r h => pj_R_to (G25, 165, [(1, .int y1), (0, .ref 171)], [.int (Int32.ofInt 1), .ref 171, .int y1, .ref 189], 0, 0) 165 2 (fun _ => rfl) h) ?_
                have q35 : (pj_fi G25 171 39).toInt = y23.toInt := by rw [show pj_fi G25 171 39 = y23 from by rw [hG25, pj_fi_wa]; exact hy23.symm]
                have q36 : (pj_fi G25 171 17).toInt = y24.toInt := by rw [show pj_fi G25 171 17 = y24 from by rw [hG25, pj_fi_wa]; exact hy24.symm]
                refine pj_X_ca (vs := [.ref 171, .int (Int32.ofInt 1)]) rfl (fun _ => rfl) ⟨Nat.le_of_ble_eq_true rfl, Nat.le_of_ble_eq_true rfl, pj_T_rcv iG25 rfl⟩ ⟨rfl, rfl⟩ (pj_Y_up (by decide) (ct_186ex G25 iG25 (Int32.ofInt 1) ⟨by omega, by omega⟩)) ?_
                rintro _ G38 ⟨y37, rfl, iG38, jG38, ry37, ey37, fy37⟩
                replace ey37 := And.intro (ey37 _ rfl).2.2.1 (ey37 _ rfl).2.2.2.1
                rw [← fy37, pj_bd_e]
                have kG38 : pj_kpt kc_229x G0 G38 := pj_kpt_t kG25 (pj_kpt_s jG38 rfl)
                have q39 : (pj_fi G38 171 39).toInt = (pj_fi G25 171 39).toInt := by rw [jG38.1 (171, 39) (by decide)]
                obtain ⟨y40, hy40⟩ : ∃ z : Int32, z = pj_fi G38 171 39 := ⟨_, rfl⟩
                have ey40 : (pj_fi G38 171 39).toInt = y40.toInt := by rw [hy40]
                have ry40 : (0 : Int) ≤ y40.toInt ∧ y40.toInt ≤ 60 := by rw [hy40]; exact iG38.2.1 171 39 (0, 60) rfl
                obtain ⟨y41, hy41⟩ : ∃ z : Int32, z = pj_fi G38 171 17 := ⟨_, rfl⟩
                have ey41 : (pj_fi G38 171 17).toInt = y41.toInt := by rw [hy41]
                have ry41 : (0 : Int) ≤ y41.toInt ∧ y41.toInt ≤ 80 := by rw [hy41]; exact iG38.2.1 171 17 (0, 80) rfl
                show pj_X _ _ G38 168 [(1, .int y1), (0, .ref 171)] [.int y37, .int y1, .ref 189] _
                refine pj_X_of (fun r h => pj_T_is iG38 rfl rfl (by omega) (by omega) h) ?_
                show pj_X _ _ (pj_wa G38 189 y1.toInt.toNat y37) 169 [(1, .int y1), (0, .ref 171)] [] _
                obtain ⟨G42, hG42⟩ : ∃ H, H = pj_wa G38 189 y1.toInt.toNat y37 := ⟨_, rfl⟩
                have iG42 : pj_Inv G42 := by rw [hG42]; exact pj_Inv_wa iG38 rfl (fun q hq => by cases hq) (fun n hn => by cases hn)
                have kG42 : pj_kpt kc_229x G0 G42 := by rw [hG42]; exact pj_kpt_a kG38 rfl
                rw [← hG42]
                rw [pj_nm_e]
                refine pj_X_of (fun r h => pj_R_to (G42, 170, [(1, .int y1), (0, .ref 171)], [.ref 171], 0, 0) 170 2 (fun _ => rfl) h) ?_
                refine pj_X_of (fun r h => pj_T_gr iG42 rfl rfl rfl h) ?_
                refine pj_X_of (fun r h => pj_R_to (G42, 174, [(1, .int y1), (0, .ref 171)], [.int y1, .ref 189], 0, 0) 174 2 (fun _ => rfl) h) ?_
                refine pj_X_of (fun r h => pj_T_il iG42 rfl rfl (by omega) (by omega) h) ?_
                show pj_X _ _ G42 175 [(1, .int y1), (0, .ref 171)] [.int (pj_ai G42 189 y1.toInt.toNat)] _
                obtain ⟨z43, hz43⟩ : ∃ z : Int32, z = pj_ai G42 189 y1.toInt.toNat := ⟨_, rfl⟩
                refine pj_X_eqi hz43.symm ?_
                rw [← hz43, pj_nm_e]
                have ez43 : (pj_ai G42 189 y1.toInt.toNat).toInt = z43.toInt := by rw [hz43]
                have x44 : z43.toInt = y37.toInt := by rw [hz43, show y1.toInt.toNat = y1.toInt.toNat by omega, hG42, pj_ai_wa_eq iG38.1 rfl]
                cases b45 : pj_c1 .lt z43 0 with
                | true =>
                  rw [pj_cT]
                  have ub45 := pj_u0_ltT b45
                  refine pj_X_of (fun r h => pj_R_ifT 182 rfl rfl b45 h) ?_
                  refine pj_X_of (fun r h => pj_R_to (G42, 183, [(1, .int y1), (0, .ref 171)], [.int (Int32.ofInt 0)], 0, 0) 183 2 (fun _ => rfl) h) ?_
                  have q46 : (pj_fi G42 171 39).toInt = y40.toInt := by rw [show pj_fi G42 171 39 = y40 from by rw [hG42, pj_fi_wa]; exact hy40.symm]
                  have q47 : (pj_fi G42 171 17).toInt = y41.toInt := by rw [show pj_fi G42 171 17 = y41 from by rw [hG42, pj_fi_wa]; exact hy41.symm]
                  exact pj_X_rt rfl rfl ⟨_, rfl, iG42, kG42, ⟨by omega, by omega⟩, (fun H hH => by subst hH; exact (by omega)), rfl⟩
                | false =>
                  rw [pj_cF]
                  have ub45 := pj_u0_ltF b45
                  refine pj_X_of (fun r h => pj_R_ifF rfl b45 h) ?_
                  refine pj_X_of (fun r h => pj_R_to (G42, 183, [(1, .int y1), (0, .ref 171)], [.int (Int32.ofInt 1)], 0, 0) 183 3 (fun _ => rfl) h) ?_
                  have q48 : (pj_fi G42 171 39).toInt = y40.toInt := by rw [show pj_fi G42 171 39 = y40 from by rw [hG42, pj_fi_wa]; exact hy40.symm]
                  have q49 : (pj_fi G42 171 17).toInt = y41.toInt := by rw [show pj_fi G42 171 17 = y41 from by rw [hG42, pj_fi_wa]; exact hy41.symm]
                  exact pj_X_rt rfl rfl ⟨_, rfl, iG42, kG42, ⟨by omega, by omega⟩, (fun H hH => by subst hH; exact (by omega)), rfl⟩
              | false =>
                rw [pj_cF]
                have ub34 := pj_u_neF b34
                refine pj_X_of (fun r h => pj_R_icF rfl b34 h) ?_
                refine pj_X_of (fun r h => pj_R_to (G25, 165, [(1, .int y1), (0, .ref 171)], [.int (Int32.ofInt 3), .ref 171, .int y1, .ref 189], 0, 0) 165 3 (fun _ => rfl) h) ?_
                have q50 : (pj_fi G25 171 39).toInt = y23.toInt := by rw [show pj_fi G25 171 39 = y23 from by rw [hG25, pj_fi_wa]; exact hy23.symm]
                have q51 : (pj_fi G25 171 17).toInt = y24.toInt := by rw [show pj_fi G25 171 17 = y24 from by rw [hG25, pj_fi_wa]; exact hy24.symm]
                refine pj_X_ca (vs := [.ref 171, .int (Int32.ofInt 3)]) rfl (fun _ => rfl) ⟨Nat.le_of_ble_eq_true rfl, Nat.le_of_ble_eq_true rfl, pj_T_rcv iG25 rfl⟩ ⟨rfl, rfl⟩ (pj_Y_up (by decide) (ct_186ex G25 iG25 (Int32.ofInt 3) ⟨by omega, by omega⟩)) ?_
                rintro _ G53 ⟨y52, rfl, iG53, jG53, ry52, ey52, fy52⟩
                replace ey52 := And.intro (ey52 _ rfl).2.2.1 (ey52 _ rfl).2.2.2.1
                rw [← fy52, pj_bd_e]
                have kG53 : pj_kpt kc_229x G0 G53 := pj_kpt_t kG25 (pj_kpt_s jG53 rfl)
                have q54 : (pj_fi G53 171 39).toInt = (pj_fi G25 171 39).toInt := by rw [jG53.1 (171, 39) (by decide)]
                obtain ⟨y55, hy55⟩ : ∃ z : Int32, z = pj_fi G53 171 39 := ⟨_, rfl⟩
                have ey55 : (pj_fi G53 171 39).toInt = y55.toInt := by rw [hy55]
                have ry55 : (0 : Int) ≤ y55.toInt ∧ y55.toInt ≤ 60 := by rw [hy55]; exact iG53.2.1 171 39 (0, 60) rfl
                obtain ⟨y56, hy56⟩ : ∃ z : Int32, z = pj_fi G53 171 17 := ⟨_, rfl⟩
                have ey56 : (pj_fi G53 171 17).toInt = y56.toInt := by rw [hy56]
                have ry56 : (0 : Int) ≤ y56.toInt ∧ y56.toInt ≤ 80 := by rw [hy56]; exact iG53.2.1 171 17 (0, 80) rfl
                show pj_X _ _ G53 168 [(1, .int y1), (0, .ref 171)] [.int y52, .int y1, .ref 189] _
                refine pj_X_of (fun r h => pj_T_is iG53 rfl rfl (by omega) (by omega) h) ?_
                show pj_X _ _ (pj_wa G53 189 y1.toInt.toNat y52) 169 [(1, .int y1), (0, .ref 171)] [] _
                obtain ⟨G57, hG57⟩ : ∃ H, H = pj_wa G53 189 y1.toInt.toNat y52 := ⟨_, rfl⟩
                have iG57 : pj_Inv G57 := by rw [hG57]; exact pj_Inv_wa iG53 rfl (fun q hq => by cases hq) (fun n hn => by cases hn)
                have kG57 : pj_kpt kc_229x G0 G57 := by rw [hG57]; exact pj_kpt_a kG53 rfl
                rw [← hG57]
                rw [pj_nm_e]
                refine pj_X_of (fun r h => pj_R_to (G57, 170, [(1, .int y1), (0, .ref 171)], [.ref 171], 0, 0) 170 2 (fun _ => rfl) h) ?_
                refine pj_X_of (fun r h => pj_T_gr iG57 rfl rfl rfl h) ?_
                refine pj_X_of (fun r h => pj_R_to (G57, 174, [(1, .int y1), (0, .ref 171)], [.int y1, .ref 189], 0, 0) 174 2 (fun _ => rfl) h) ?_
                refine pj_X_of (fun r h => pj_T_il iG57 rfl rfl (by omega) (by omega) h) ?_
                show pj_X _ _ G57 175 [(1, .int y1), (0, .ref 171)] [.int (pj_ai G57 189 y1.toInt.toNat)] _
                obtain ⟨z58, hz58⟩ : ∃ z : Int32, z = pj_ai G57 189 y1.toInt.toNat := ⟨_, rfl⟩
                refine pj_X_eqi hz58.symm ?_
                rw [← hz58, pj_nm_e]
                have ez58 : (pj_ai G57 189 y1.toInt.toNat).toInt = z58.toInt := by rw [hz58]
                have x59 : z58.toInt = y52.toInt := by rw [hz58, show y1.toInt.toNat = y1.toInt.toNat by omega, hG57, pj_ai_wa_eq iG53.1 rfl]
                cases b60 : pj_c1 .lt z58 0 with
                | true =>
                  rw [pj_cT]
                  have ub60 := pj_u0_ltT b60
                  refine pj_X_of (fun r h => pj_R_ifT 182 rfl rfl b60 h) ?_
                  refine pj_X_of (fun r h => pj_R_to (G57, 183, [(1, .int y1), (0, .ref 171)], [.int (Int32.ofInt 0)], 0, 0) 183 2 (fun _ => rfl) h) ?_
                  have q61 : (pj_fi G57 171 39).toInt = y55.toInt := by rw [show pj_fi G57 171 39 = y55 from by rw [hG57, pj_fi_wa]; exact hy55.symm]
                  have q62 : (pj_fi G57 171 17).toInt = y56.toInt := by rw [show pj_fi G57 171 17 = y56 from by rw [hG57, pj_fi_wa]; exact hy56.symm]
                  exact pj_X_rt rfl rfl ⟨_, rfl, iG57, kG57, ⟨by omega, by omega⟩, (fun H hH => by subst hH; exact (by omega)), rfl⟩
                | false =>
                  rw [pj_cF]
                  have ub60 := pj_u0_ltF b60
                  refine pj_X_of (fun r h => pj_R_ifF rfl b60 h) ?_
                  refine pj_X_of (fun r h => pj_R_to (G57, 183, [(1, .int y1), (0, .ref 171)], [.int (Int32.ofInt 1)], 0, 0) 183 3 (fun _ => rfl) h) ?_
                  have q63 : (pj_fi G57 171 39).toInt = y55.toInt := by rw [show pj_fi G57 171 39 = y55 from by rw [hG57, pj_fi_wa]; exact hy55.symm]
                  have q64 : (pj_fi G57 171 17).toInt = y56.toInt := by rw [show pj_fi G57 171 17 = y56 from by rw [hG57, pj_fi_wa]; exact hy56.symm]
                  exact pj_X_rt rfl rfl ⟨_, rfl, iG57, kG57, ⟨by omega, by omega⟩, (fun H hH => by subst hH; exact (by omega)), rfl⟩
            | false =>
              rw [pj_cF]
              have ub33 := pj_u0_neF b33
              refine pj_X_of (fun r h => pj_R_ifF rfl b33 h) ?_
              refine pj_X_of (fun r h => pj_R_to (G25, 129, [(1, .int y1), (0, .ref 171)], [.int ((Int8.ofInt 45).toInt32), .ref 171], 0, 0) 129 3 (fun _ => rfl) h) ?_
              have q65 : (pj_fi G25 171 39).toInt = y23.toInt := by rw [show pj_fi G25 171 39 = y23 from by rw [hG25, pj_fi_wa]; exact hy23.symm]
              have q66 : (pj_fi G25 171 17).toInt = y24.toInt := by rw [show pj_fi G25 171 17 = y24 from by rw [hG25, pj_fi_wa]; exact hy24.symm]
              refine pj_X_ca (vs := [.ref 171, .int ((Int8.ofInt 45).toInt32)]) rfl (fun _ => rfl) ⟨Nat.le_of_ble_eq_true rfl, Nat.le_of_ble_eq_true rfl, pj_T_rcv iG25 rfl⟩ ⟨rfl, rfl⟩ (pj_Y_up (by decide) (ct_182x G25 iG25 ((Int8.ofInt 45).toInt32) ⟨by omega, by omega⟩)) ?_
              rintro _ G68 ⟨y67, rfl, iG68, jG68, ry67, ey67, fy67⟩
              replace ey67 := (ey67 _ rfl).1
              rw [← fy67, pj_bd_e]
              have kG68 : pj_kpt kc_229x G0 G68 := pj_kpt_t kG25 (pj_kpt_s jG68 rfl)
              have q69 : (pj_fi G68 171 39).toInt = (pj_fi G25 171 39).toInt := by rw [jG68.1 (171, 39) (by decide)]
              obtain ⟨y70, hy70⟩ : ∃ z : Int32, z = pj_fi G68 171 39 := ⟨_, rfl⟩
              have ey70 : (pj_fi G68 171 39).toInt = y70.toInt := by rw [hy70]
              have ry70 : (0 : Int) ≤ y70.toInt ∧ y70.toInt ≤ 60 := by rw [hy70]; exact iG68.2.1 171 39 (0, 60) rfl
              obtain ⟨y71, hy71⟩ : ∃ z : Int32, z = pj_fi G68 171 17 := ⟨_, rfl⟩
              have ey71 : (pj_fi G68 171 17).toInt = y71.toInt := by rw [hy71]
              have ry71 : (0 : Int) ≤ y71.toInt ∧ y71.toInt ≤ 80 := by rw [hy71]; exact iG68.2.1 171 17 (0, 80) rfl
              show pj_X _ _ G68 132 [(1, .int y1), (0, .ref 171)] [.int y67] _
              cases b72 : pj_c1 .eq y67 0 with
              | true =>
                rw [pj_cT]
                have ub72 := pj_u0_eqT b72
                refine pj_X_of (fun r h => pj_R_ifT 144 rfl rfl b72 h) ?_
                refine pj_X_of (fun r h => pj_R_to (G68, 145, [(1, .int y1), (0, .ref 171)], [.ref 171], 0, 0) 145 2 (fun _ => rfl) h) ?_
                refine pj_X_of (fun r h => pj_T_gr iG68 rfl rfl rfl h) ?_
                refine pj_X_of (fun r h => pj_R_to (G68, 151, [(1, .int y1), (0, .ref 171)], [.ref 171, .ref 171, .int y1, .ref 189], 0, 0) 151 4 (fun _ => rfl) h) ?_
                refine pj_X_of (fun r h => pj_T_gr iG68 rfl rfl rfl h) ?_
                refine pj_X_of (fun r h => pj_R_to (G68, 155, [(1, .int y1), (0, .ref 171)], [.int y1, .ref 187, .ref 171, .int y1, .ref 189], 0, 0) 155 2 (fun _ => rfl) h) ?_
                refine pj_X_of (fun r h => pj_T_il iG68 rfl rfl (by omega) (by omega) h) ?_
                show pj_X _ _ G68 156 [(1, .int y1), (0, .ref 171)] [.int (pj_ai G68 187 y1.toInt.toNat), .ref 171, .int y1, .ref 189] _
                obtain ⟨z73, hz73⟩ : ∃ z : Int32, z = pj_ai G68 187 y1.toInt.toNat := ⟨_, rfl⟩
                refine pj_X_eqi hz73.symm ?_
                rw [← hz73, pj_nm_e]
                have ez73 : (pj_ai G68 187 y1.toInt.toNat).toInt = z73.toInt := by rw [hz73]
                refine pj_X_of (fun r h => pj_R_to (G68, 157, [(1, .int y1), (0, .ref 171)], [.int (Int32.ofInt 1), .int z73, .ref 171, .int y1, .ref 189], 0, 0) 157 2 (fun _ => rfl) h) ?_
                cases b74 : pj_c1 .ne z73 (Int32.ofInt 1) with
                | true =>
                  rw [pj_cT]
                  have ub74 := pj_u_neT b74
                  refine pj_X_of (fun r h => pj_R_icT 164 rfl rfl b74 h) ?_
                  refine pj_X_of (fun r h => pj_R_to (G68, 165, [(1, .int y1), (0, .ref 171)], [.int (Int32.ofInt 1), .ref 171, .int y1, .ref 189], 0, 0) 165 2 (fun _ => rfl) h) ?_
                  have q75 : (pj_fi G68 171 39).toInt = y70.toInt := by rw [show pj_fi G68 171 39 = y70 from hy70.symm]
                  have q76 : (pj_fi G68 171 17).toInt = y71.toInt := by rw [show pj_fi G68 171 17 = y71 from hy71.symm]
                  refine pj_X_ca (vs := [.ref 171, .int (Int32.ofInt 1)]) rfl (fun _ => rfl) ⟨Nat.le_of_ble_eq_true rfl, Nat.le_of_ble_eq_true rfl, pj_T_rcv iG68 rfl⟩ ⟨rfl, rfl⟩ (pj_Y_up (by decide) (ct_186ex G68 iG68 (Int32.ofInt 1) ⟨by omega, by omega⟩)) ?_
                  rintro _ G78 ⟨y77, rfl, iG78, jG78, ry77, ey77, fy77⟩
                  replace ey77 := And.intro (ey77 _ rfl).2.2.1 (ey77 _ rfl).2.2.2.1
                  rw [← fy77, pj_bd_e]
                  have kG78 : pj_kpt kc_229x G0 G78 := pj_kpt_t kG68 (pj_kpt_s jG78 rfl)
                  have q79 : (pj_fi G78 171 39).toInt = (pj_fi G68 171 39).toInt := by rw [jG78.1 (171, 39) (by decide)]
                  obtain ⟨y80, hy80⟩ : ∃ z : Int32, z = pj_fi G78 171 39 := ⟨_, rfl⟩
                  have ey80 : (pj_fi G78 171 39).toInt = y80.toInt := by rw [hy80]
                  have ry80 : (0 : Int) ≤ y80.toInt ∧ y80.toInt ≤ 60 := by rw [hy80]; exact iG78.2.1 171 39 (0, 60) rfl
                  obtain ⟨y81, hy81⟩ : ∃ z : Int32, z = pj_fi G78 171 17 := ⟨_, rfl⟩
                  have ey81 : (pj_fi G78 171 17).toInt = y81.toInt := by rw [hy81]
                  have ry81 : (0 : Int) ≤ y81.toInt ∧ y81.toInt ≤ 80 := by rw [hy81]; exact iG78.2.1 171 17 (0, 80) rfl
                  show pj_X _ _ G78 168 [(1, .int y1), (0, .ref 171)] [.int y77, .int y1, .ref 189] _
                  refine pj_X_of (fun r h => pj_T_is iG78 rfl rfl (by omega) (by omega) h) ?_
                  show pj_X _ _ (pj_wa G78 189 y1.toInt.toNat y77) 169 [(1, .int y1), (0, .ref 171)] [] _
                  obtain ⟨G82, hG82⟩ : ∃ H, H = pj_wa G78 189 y1.toInt.toNat y77 := ⟨_, rfl⟩
                  have iG82 : pj_Inv G82 := by rw [hG82]; exact pj_Inv_wa iG78 rfl (fun q hq => by cases hq) (fun n hn => by cases hn)
                  have kG82 : pj_kpt kc_229x G0 G82 := by rw [hG82]; exact pj_kpt_a kG78 rfl
                  rw [← hG82]
                  rw [pj_nm_e]
                  refine pj_X_of (fun r h => pj_R_to (G82, 170, [(1, .int y1), (0, .ref 171)], [.ref 171], 0, 0) 170 2 (fun _ => rfl) h) ?_
                  refine pj_X_of (fun r h => pj_T_gr iG82 rfl rfl rfl h) ?_
                  refine pj_X_of (fun r h => pj_R_to (G82, 174, [(1, .int y1), (0, .ref 171)], [.int y1, .ref 189], 0, 0) 174 2 (fun _ => rfl) h) ?_
                  refine pj_X_of (fun r h => pj_T_il iG82 rfl rfl (by omega) (by omega) h) ?_
                  show pj_X _ _ G82 175 [(1, .int y1), (0, .ref 171)] [.int (pj_ai G82 189 y1.toInt.toNat)] _
                  obtain ⟨z83, hz83⟩ : ∃ z : Int32, z = pj_ai G82 189 y1.toInt.toNat := ⟨_, rfl⟩
                  refine pj_X_eqi hz83.symm ?_
                  rw [← hz83, pj_nm_e]
                  have ez83 : (pj_ai G82 189 y1.toInt.toNat).toInt = z83.toInt := by rw [hz83]
                  have x84 : z83.toInt = y77.toInt := by rw [hz83, show y1.toInt.toNat = y1.toInt.toNat by omega, hG82, pj_ai_wa_eq iG78.1 rfl]
                  cases b85 : pj_c1 .lt z83 0 with
                  | true =>
                    rw [pj_cT]
                    have ub85 := pj_u0_ltT b85
                    refine pj_X_of (fun r h => pj_R_ifT 182 rfl rfl b85 h) ?_
                    refine pj_X_of (fun r h => pj_R_to (G82, 183, [(1, .int y1), (0, .ref 171)], [.int (Int32.ofInt 0)], 0, 0) 183 2 (fun _ => rfl) h) ?_
                    have q86 : (pj_fi G82 171 39).toInt = y80.toInt := by rw [show pj_fi G82 171 39 = y80 from by rw [hG82, pj_fi_wa]; exact hy80.symm]
                    have q87 : (pj_fi G82 171 17).toInt = y81.toInt := by rw [show pj_fi G82 171 17 = y81 from by rw [hG82, pj_fi_wa]; exact hy81.symm]
                    exact pj_X_rt rfl rfl ⟨_, rfl, iG82, kG82, ⟨by omega, by omega⟩, (fun H hH => by subst hH; exact (by omega)), rfl⟩
                  | false =>
                    rw [pj_cF]
                    have ub85 := pj_u0_ltF b85
                    refine pj_X_of (fun r h => pj_R_ifF rfl b85 h) ?_
                    refine pj_X_of (fun r h => pj_R_to (G82, 183, [(1, .int y1), (0, .ref 171)], [.int (Int32.ofInt 1)], 0, 0) 183 3 (fun _ => rfl) h) ?_
                    have q88 : (pj_fi G82 171 39).toInt = y80.toInt := by rw [show pj_fi G82 171 39 = y80 from by rw [hG82, pj_fi_wa]; exact hy80.symm]
                    have q89 : (pj_fi G82 171 17).toInt = y81.toInt := by rw [show pj_fi G82 171 17 = y81 from by rw [hG82, pj_fi_wa]; exact hy81.symm]
                    exact pj_X_rt rfl rfl ⟨_, rfl, iG82, kG82, ⟨by omega, by omega⟩, (fun H hH => by subst hH; exact (by omega)), rfl⟩
                | false =>
                  rw [pj_cF]
                  have ub74 := pj_u_neF b74
                  refine pj_X_of (fun r h => pj_R_icF rfl b74 h) ?_
                  refine pj_X_of (fun r h => pj_R_to (G68, 165, [(1, .int y1), (0, .ref 171)], [.int (Int32.ofInt 3), .ref 171, .int y1, .ref 189], 0, 0) 165 3 (fun _ => rfl) h) ?_
                  have q90 : (pj_fi G68 171 39).toInt = y70.toInt := by rw [show pj_fi G68 171 39 = y70 from hy70.symm]
                  have q91 : (pj_fi G68 171 17).toInt = y71.toInt := by rw [show pj_fi G68 171 17 = y71 from hy71.symm]
                  refine pj_X_ca (vs := [.ref 171, .int (Int32.ofInt 3)]) rfl (fun _ => rfl) ⟨Nat.le_of_ble_eq_true rfl, Nat.le_of_ble_eq_true rfl, pj_T_rcv iG68 rfl⟩ ⟨rfl, rfl⟩ (pj_Y_up (by decide) (ct_186ex G68 iG68 (Int32.ofInt 3) ⟨by omega, by omega⟩)) ?_
                  rintro _ G93 ⟨y92, rfl, iG93, jG93, ry92, ey92, fy92⟩
                  replace ey92 := And.intro (ey92 _ rfl).2.2.1 (ey92 _ rfl).2.2.2.1
                  rw [← fy92, pj_bd_e]
                  have kG93 : pj_kpt kc_229x G0 G93 := pj_kpt_t kG68 (pj_kpt_s jG93 rfl)
                  have q94 : (pj_fi G93 171 39).toInt = (pj_fi G68 171 39).toInt := by rw [jG93.1 (171, 39) (by decide)]
                  obtain ⟨y95, hy95⟩ : ∃ z : Int32, z = pj_fi G93 171 39 := ⟨_, rfl⟩
                  have ey95 : (pj_fi G93 171 39).toInt = y95.toInt := by rw [hy95]
                  have ry95 : (0 : Int) ≤ y95.toInt ∧ y95.toInt ≤ 60 := by rw [hy95]; exact iG93.2.1 171 39 (0, 60) rfl
                  obtain ⟨y96, hy96⟩ : ∃ z : Int32, z = pj_fi G93 171 17 := ⟨_, rfl⟩
                  have ey96 : (pj_fi G93 171 17).toInt = y96.toInt := by rw [hy96]
                  have ry96 : (0 : Int) ≤ y96.toInt ∧ y96.toInt ≤ 80 := by rw [hy96]; exact iG93.2.1 171 17 (0, 80) rfl
                  show pj_X _ _ G93 168 [(1, .int y1), (0, .ref 171)] [.int y92, .int y1, .ref 189] _
                  refine pj_X_of (fun r h => pj_T_is iG93 rfl rfl (by omega) (by omega) h) ?_
                  show pj_X _ _ (pj_wa G93 189 y1.toInt.toNat y92) 169 [(1, .int y1), (0, .ref 171)] [] _
                  obtain ⟨G97, hG97⟩ : ∃ H, H = pj_wa G93 189 y1.toInt.toNat y92 := ⟨_, rfl⟩
                  have iG97 : pj_Inv G97 := by rw [hG97]; exact pj_Inv_wa iG93 rfl (fun q hq => by cases hq) (fun n hn => by cases hn)
                  have kG97 : pj_kpt kc_229x G0 G97 := by rw [hG97]; exact pj_kpt_a kG93 rfl
                  rw [← hG97]
                  rw [pj_nm_e]
                  refine pj_X_of (fun r h => pj_R_to (G97, 170, [(1, .int y1), (0, .ref 171)], [.ref 171], 0, 0) 170 2 (fun _ => rfl) h) ?_
                  refine pj_X_of (fun r h => pj_T_gr iG97 rfl rfl rfl h) ?_
                  refine pj_X_of (fun r h => pj_R_to (G97, 174, [(1, .int y1), (0, .ref 171)], [.int y1, .ref 189], 0, 0) 174 2 (fun _ => rfl) h) ?_
                  refine pj_X_of (fun r h => pj_T_il iG97 rfl rfl (by omega) (by omega) h) ?_
                  show pj_X _ _ G97 175 [(1, .int y1), (0, .ref 171)] [.int (pj_ai G97 189 y1.toInt.toNat)] _
                  obtain ⟨z98, hz98⟩ : ∃ z : Int32, z = pj_ai G97 189 y1.toInt.toNat := ⟨_, rfl⟩
                  refine pj_X_eqi hz98.symm ?_
                  rw [← hz98, pj_nm_e]
                  have ez98 : (pj_ai G97 189 y1.toInt.toNat).toInt = z98.toInt := by rw [hz98]
                  have x99 : z98.toInt = y92.toInt := by rw [hz98, show y1.toInt.toNat = y1.toInt.toNat by omega, hG97, pj_ai_wa_eq iG93.1 rfl]
                  cases b100 : pj_c1 .lt z98 0 with
                  | true =>
                    rw [pj_cT]
                    have ub100 := pj_u0_ltT b100
                    refine pj_X_of (fun r h => pj_R_ifT 182 rfl rfl b100 h) ?_
                    refine pj_X_of (fun r h => pj_R_to (G97, 183, [(1, .int y1), (0, .ref 171)], [.int (Int32.ofInt 0)], 0, 0) 183 2 (fun _ => rfl) h) ?_
                    have q101 : (pj_fi G97 171 39).toInt = y95.toInt := by rw [show pj_fi G97 171 39 = y95 from by rw [hG97, pj_fi_wa]; exact hy95.symm]
                    have q102 : (pj_fi G97 171 17).toInt = y96.toInt := by rw [show pj_fi G97 171 17 = y96 from by rw [hG97, pj_fi_wa]; exact hy96.symm]
                    exact pj_X_rt rfl rfl ⟨_, rfl, iG97, kG97, ⟨by omega, by omega⟩, (fun H hH => by subst hH; exact (by omega)), rfl⟩
                  | false =>
                    rw [pj_cF]
                    have ub100 := pj_u0_ltF b100
                    refine pj_X_of (fun r h => pj_R_ifF rfl b100 h) ?_
                    refine pj_X_of (fun r h => pj_R_to (G97, 183, [(1, .int y1), (0, .ref 171)], [.int (Int32.ofInt 1)], 0, 0) 183 3 (fun _ => rfl) h) ?_
                    have q103 : (pj_fi G97 171 39).toInt = y95.toInt := by rw [show pj_fi G97 171 39 = y95 from by rw [hG97, pj_fi_wa]; exact hy95.symm]
                    have q104 : (pj_fi G97 171 17).toInt = y96.toInt := by rw [show pj_fi G97 171 17 = y96 from by rw [hG97, pj_fi_wa]; exact hy96.symm]
                    exact pj_X_rt rfl rfl ⟨_, rfl, iG97, kG97, ⟨by omega, by omega⟩, (fun H hH => by subst hH; exact (by omega)), rfl⟩
              | false =>
                rw [pj_cF]
                have ub72 := pj_u0_eqF b72
                refine pj_X_of (fun r h => pj_R_ifF rfl b72 h) ?_
                refine pj_X_of (fun r h => pj_R_to (G68, 136, [(1, .int y1), (0, .ref 171)], [.ref 171], 0, 0) 136 2 (fun _ => rfl) h) ?_
                refine pj_X_of (fun r h => pj_T_gr iG68 rfl rfl rfl h) ?_
                refine pj_X_of (fun r h => pj_R_to (G68, 141, [(1, .int y1), (0, .ref 171)], [.int (Int32.ofInt (-1)), .int y1, .ref 189], 0, 0) 141 3 (fun _ => rfl) h) ?_
                refine pj_X_of (fun r h => pj_T_is iG68 rfl rfl (by omega) (by omega) h) ?_
                show pj_X _ _ (pj_wa G68 189 y1.toInt.toNat (Int32.ofInt (-1))) 142 [(1, .int y1), (0, .ref 171)] [] _
                obtain ⟨G105, hG105⟩ : ∃ H, H = pj_wa G68 189 y1.toInt.toNat (Int32.ofInt (-1)) := ⟨_, rfl⟩
                have iG105 : pj_Inv G105 := by rw [hG105]; exact pj_Inv_wa iG68 rfl (fun q hq => by cases hq) (fun n hn => by cases hn)
                have kG105 : pj_kpt kc_229x G0 G105 := by rw [hG105]; exact pj_kpt_a kG68 rfl
                rw [← hG105]
                rw [pj_nm_e]
                refine pj_X_of (fun r h => pj_R_to (G105, 143, [(1, .int y1), (0, .ref 171)], [.int (Int32.ofInt 1)], 0, 0) 143 2 (fun _ => rfl) h) ?_
                have q106 : (pj_fi G105 171 39).toInt = y70.toInt := by rw [show pj_fi G105 171 39 = y70 from by rw [hG105, pj_fi_wa]; exact hy70.symm]
                have q107 : (pj_fi G105 171 17).toInt = y71.toInt := by rw [show pj_fi G105 171 17 = y71 from by rw [hG105, pj_fi_wa]; exact hy71.symm]
                exact pj_X_rt rfl rfl ⟨_, rfl, iG105, kG105, ⟨by omega, by omega⟩, (fun H hH => by subst hH; exact (by omega)), rfl⟩
          | false =>
            rw [pj_cF]
            have ub32 := pj_u_neF b32
            refine pj_X_of (fun r h => pj_R_icF rfl b32 h) ?_
            refine pj_X_of (fun r h => pj_R_to (G25, 103, [(1, .int y1), (0, .ref 171)], [.ref 171], 0, 0) 103 2 (fun _ => rfl) h) ?_
            refine pj_X_of (fun r h => pj_T_gr iG25 rfl rfl rfl h) ?_
            refine pj_X_of (fun r h => pj_R_to (G25, 107, [(1, .int y1), (0, .ref 171)], [.int y1, .ref 188], 0, 0) 107 2 (fun _ => rfl) h) ?_
            refine pj_X_of (fun r h => pj_T_il iG25 rfl rfl (by omega) (by omega) h) ?_
            show pj_X _ _ G25 108 [(1, .int y1), (0, .ref 171)] [.int (pj_ai G25 188 y1.toInt.toNat)] _
            refine pj_X_eqi hz26.symm ?_
            refine pj_X_of (fun r h => pj_R_ifF rfl (pj_b0_ltF (by omega)) h) ?_
            refine pj_X_of (fun r h => pj_R_to (G25, 116, [(1, .int y1), (0, .ref 171)], [.int (Int32.ofInt 1)], 0, 0) 116 3 (fun _ => rfl) h) ?_
            have q108 : (pj_fi G25 171 39).toInt = y23.toInt := by rw [show pj_fi G25 171 39 = y23 from by rw [hG25, pj_fi_wa]; exact hy23.symm]
            have q109 : (pj_fi G25 171 17).toInt = y24.toInt := by rw [show pj_fi G25 171 17 = y24 from by rw [hG25, pj_fi_wa]; exact hy24.symm]
            exact pj_X_rt rfl rfl ⟨_, rfl, iG25, kG25, ⟨by omega, by omega⟩, (fun H hH => by subst hH; exact (by omega)), rfl⟩
      | false =>
        rw [pj_cF]
        have ub17 := pj_u_neF b17
        refine pj_X_of (fun r h => pj_R_icF rfl b17 h) ?_
        refine pj_X_of (fun r h => pj_R_to (G12, 79, [(1, .int y1), (0, .ref 171)], [.int (Int32.ofInt 2), .ref 171, .int y1, .ref 188], 0, 0) 79 3 (fun _ => rfl) h) ?_
        have q110 : (pj_fi G12 171 39).toInt = z11.toInt := by rw [show pj_fi G12 171 39 = z11 from by rw [hG12]; exact pj_fi_wi iG10.1 (ci := 12) rfl _]
        have q111 : (pj_fi G12 171 17).toInt = y9.toInt := by rw [show pj_fi G12 171 17 = y9 from by rw [hG12, pj_fi_wv_ne _ _ _ _ _ _ (by decide)]; exact (by rw [hG10, pj_fi_wa]; exact hy9.symm)]
        refine pj_X_ca (vs := [.ref 171, .int (Int32.ofInt 2)]) rfl (fun _ => rfl) ⟨Nat.le_of_ble_eq_true rfl, Nat.le_of_ble_eq_true rfl, pj_T_rcv iG12 rfl⟩ ⟨rfl, rfl⟩ (pj_Y_up (by decide) (ct_186ex G12 iG12 (Int32.ofInt 2) ⟨by omega, by omega⟩)) ?_
        rintro _ G113 ⟨y112, rfl, iG113, jG113, ry112, ey112, fy112⟩
        replace ey112 := And.intro (ey112 _ rfl).2.2.1 (ey112 _ rfl).2.2.2.1
        rw [← fy112, pj_bd_e]
        have kG113 : pj_kpt kc_229x G0 G113 := pj_kpt_t kG12 (pj_kpt_s jG113 rfl)
        have q114 : (pj_fi G113 171 39).toInt = (pj_fi G12 171 39).toInt := by rw [jG113.1 (171, 39) (by decide)]
        obtain ⟨y115, hy115⟩ : ∃ z : Int32, z = pj_fi G113 171 39 := ⟨_, rfl⟩
        have ey115 : (pj_fi G113 171 39).toInt = y115.toInt := by rw [hy115]
        have ry115 : (0 : Int) ≤ y115.toInt ∧ y115.toInt ≤ 60 := by rw [hy115]; exact iG113.2.1 171 39 (0, 60) rfl
        obtain ⟨y116, hy116⟩ : ∃ z : Int32, z = pj_fi G113 171 17 := ⟨_, rfl⟩
        have ey116 : (pj_fi G113 171 17).toInt = y116.toInt := by rw [hy116]
        have ry116 : (0 : Int) ≤ y116.toInt ∧ y116.toInt ≤ 80 := by rw [hy116]; exact iG113.2.1 171 17 (0, 80) rfl
        show pj_X _ _ G113 82 [(1, .int y1), (0, .ref 171)] [.int y112, .int y1, .ref 188] _
        refine pj_X_of (fun r h => pj_T_is iG113 rfl rfl (by omega) (by omega) h) ?_
        show pj_X _ _ (pj_wa G113 188 y1.toInt.toNat y112) 83 [(1, .int y1), (0, .ref 171)] [] _
        obtain ⟨G117, hG117⟩ : ∃ H, H = pj_wa G113 188 y1.toInt.toNat y112 := ⟨_, rfl⟩
        have iG117 : pj_Inv G117 := by rw [hG117]; exact pj_Inv_wa iG113 rfl (fun q hq => by cases hq) (fun n hn => by cases hn)
        have kG117 : pj_kpt kc_229x G0 G117 := by rw [hG117]; exact pj_kpt_a kG113 rfl
        rw [← hG117]
        rw [pj_nm_e]
        refine pj_X_of (fun r h => pj_R_to (G117, 84, [(1, .int y1), (0, .ref 171)], [.ref 171], 0, 0) 84 2 (fun _ => rfl) h) ?_
        refine pj_X_of (fun r h => pj_T_gr iG117 rfl rfl rfl h) ?_
        refine pj_X_of (fun r h => pj_R_to (G117, 88, [(1, .int y1), (0, .ref 171)], [.int y1, .ref 188], 0, 0) 88 2 (fun _ => rfl) h) ?_
        refine pj_X_of (fun r h => pj_T_il iG117 rfl rfl (by omega) (by omega) h) ?_
        show pj_X _ _ G117 89 [(1, .int y1), (0, .ref 171)] [.int (pj_ai G117 188 y1.toInt.toNat)] _
        obtain ⟨z118, hz118⟩ : ∃ z : Int32, z = pj_ai G117 188 y1.toInt.toNat := ⟨_, rfl⟩
        refine pj_X_eqi hz118.symm ?_
        rw [← hz118, pj_nm_e]
        have ez118 : (pj_ai G117 188 y1.toInt.toNat).toInt = z118.toInt := by rw [hz118]
        have x119 : z118.toInt = y112.toInt := by rw [hz118, show y1.toInt.toNat = y1.toInt.toNat by omega, hG117, pj_ai_wa_eq iG113.1 rfl]
        cases b120 : pj_c1 .lt z118 0 with
        | true =>
          rw [pj_cT]
          have ub120 := pj_u0_ltT b120
          refine pj_X_of (fun r h => pj_R_ifT 102 rfl rfl b120 h) ?_
          refine pj_X_of (fun r h => pj_R_to (G117, 103, [(1, .int y1), (0, .ref 171)], [.ref 171], 0, 0) 103 2 (fun _ => rfl) h) ?_
          refine pj_X_of (fun r h => pj_T_gr iG117 rfl rfl rfl h) ?_
          refine pj_X_of (fun r h => pj_R_to (G117, 107, [(1, .int y1), (0, .ref 171)], [.int y1, .ref 188], 0, 0) 107 2 (fun _ => rfl) h) ?_
          refine pj_X_of (fun r h => pj_T_il iG117 rfl rfl (by omega) (by omega) h) ?_
          show pj_X _ _ G117 108 [(1, .int y1), (0, .ref 171)] [.int (pj_ai G117 188 y1.toInt.toNat)] _
          refine pj_X_eqi hz118.symm ?_
          refine pj_X_of (fun r h => pj_R_ifT 115 rfl rfl (pj_b0_ltT (by omega)) h) ?_
          refine pj_X_of (fun r h => pj_R_to (G117, 116, [(1, .int y1), (0, .ref 171)], [.int (Int32.ofInt 0)], 0, 0) 116 2 (fun _ => rfl) h) ?_
          have q121 : (pj_fi G117 171 39).toInt = y115.toInt := by rw [show pj_fi G117 171 39 = y115 from by rw [hG117, pj_fi_wa]; exact hy115.symm]
          have q122 : (pj_fi G117 171 17).toInt = y116.toInt := by rw [show pj_fi G117 171 17 = y116 from by rw [hG117, pj_fi_wa]; exact hy116.symm]
          exact pj_X_rt rfl rfl ⟨_, rfl, iG117, kG117, ⟨by omega, by omega⟩, (fun H hH => by subst hH; exact (by omega)), rfl⟩
        | false =>
          rw [pj_cF]
          have ub120 := pj_u0_ltF b120
          refine pj_X_of (fun r h => pj_R_ifF rfl b120 h) ?_
          refine pj_X_of (fun r h => pj_R_to (G117, 93, [(1, .int y1), (0, .ref 171)], [.ref 171], 0, 0) 93 2 (fun _ => rfl) h) ?_
          refine pj_X_of (fun r h => pj_T_gr iG117 rfl rfl rfl h) ?_
          refine pj_X_of (fun r h => pj_R_to (G117, 97, [(1, .int y1), (0, .ref 171)], [.int y1, .ref 187], 0, 0) 97 2 (fun _ => rfl) h) ?_
          refine pj_X_of (fun r h => pj_T_il iG117 rfl rfl (by omega) (by omega) h) ?_
          show pj_X _ _ G117 98 [(1, .int y1), (0, .ref 171)] [.int (pj_ai G117 187 y1.toInt.toNat)] _
          obtain ⟨z123, hz123⟩ : ∃ z : Int32, z = pj_ai G117 187 y1.toInt.toNat := ⟨_, rfl⟩
          refine pj_X_eqi hz123.symm ?_
          rw [← hz123, pj_nm_e]
          have ez123 : (pj_ai G117 187 y1.toInt.toNat).toInt = z123.toInt := by rw [hz123]
          refine pj_X_of (fun r h => pj_R_to (G117, 99, [(1, .int y1), (0, .ref 171)], [.int (Int32.ofInt 3), .int z123], 0, 0) 99 2 (fun _ => rfl) h) ?_
          cases b124 : pj_c1 .ne z123 (Int32.ofInt 3) with
          | true =>
            rw [pj_cT]
            have ub124 := pj_u_neT b124
            refine pj_X_of (fun r h => pj_R_icT 117 rfl rfl b124 h) ?_
            refine pj_X_of (fun r h => pj_R_to (G117, 118, [(1, .int y1), (0, .ref 171)], [.ref 171], 0, 0) 118 2 (fun _ => rfl) h) ?_
            refine pj_X_of (fun r h => pj_T_gr iG117 rfl rfl rfl h) ?_
            refine pj_X_of (fun r h => pj_R_to (G117, 122, [(1, .int y1), (0, .ref 171)], [.int y1, .ref 187], 0, 0) 122 2 (fun _ => rfl) h) ?_
            refine pj_X_of (fun r h => pj_T_il iG117 rfl rfl (by omega) (by omega) h) ?_
            show pj_X _ _ G117 123 [(1, .int y1), (0, .ref 171)] [.int (pj_ai G117 187 y1.toInt.toNat)] _
            refine pj_X_eqi hz123.symm ?_
            cases b125 : pj_c1 .ne z123 0 with
            | true =>
              rw [pj_cT]
              have ub125 := pj_u0_neT b125
              refine pj_X_of (fun r h => pj_R_ifT 144 rfl rfl b125 h) ?_
              refine pj_X_of (fun r h => pj_R_to (G117, 145, [(1, .int y1), (0, .ref 171)], [.ref 171], 0, 0) 145 2 (fun _ => rfl) h) ?_
              refine pj_X_of (fun r h => pj_T_gr iG117 rfl rfl rfl h) ?_
              refine pj_X_of (fun r h => pj_R_to (G117, 151, [(1, .int y1), (0, .ref 171)], [.ref 171, .ref 171, .int y1, .ref 189], 0, 0) 151 4 (fun _ => rfl) h) ?_
              refine pj_X_of (fun r h => pj_T_gr iG117 rfl rfl rfl h) ?_
              refine pj_X_of (fun r h => pj_R_to (G117, 155, [(1, .int y1), (0, .ref 171)], [.int y1, .ref 187, .ref 171, .int y1, .ref 189], 0, 0) 155 2 (fun _ => rfl) h) ?_
              refine pj_X_of (fun r h => pj_T_il iG117 rfl rfl (by omega) (by omega) h) ?_
              show pj_X _ _ G117 156 [(1, .int y1), (0, .ref 171)] [.int (pj_ai G117 187 y1.toInt.toNat), .ref 171, .int y1, .ref 189] _
              refine pj_X_eqi hz123.symm ?_
              refine pj_X_of (fun r h => pj_R_to (G117, 157, [(1, .int y1), (0, .ref 171)], [.int (Int32.ofInt 1), .int z123, .ref 171, .int y1, .ref 189], 0, 0) 157 2 (fun _ => rfl) h) ?_
              cases b126 : pj_c1 .ne z123 (Int32.ofInt 1) with
              | true =>
                rw [pj_cT]
                have ub126 := pj_u_neT b126
                refine pj_X_of (fun r h => pj_R_icT 164 rfl rfl b126 h) ?_
                refine pj_X_of (fun r h => pj_R_to (G117, 165, [(1, .int y1), (0, .ref 171)], [.int (Int32.ofInt 1), .ref 171, .int y1, .ref 189], 0, 0) 165 2 (fun _ => rfl) h) ?_
                have q127 : (pj_fi G117 171 39).toInt = y115.toInt := by rw [show pj_fi G117 171 39 = y115 from by rw [hG117, pj_fi_wa]; exact hy115.symm]
                have q128 : (pj_fi G117 171 17).toInt = y116.toInt := by rw [show pj_fi G117 171 17 = y116 from by rw [hG117, pj_fi_wa]; exact hy116.symm]
                refine pj_X_ca (vs := [.ref 171, .int (Int32.ofInt 1)]) rfl (fun _ => rfl) ⟨Nat.le_of_ble_eq_true rfl, Nat.le_of_ble_eq_true rfl, pj_T_rcv iG117 rfl⟩ ⟨rfl, rfl⟩ (pj_Y_up (by decide) (ct_186ex G117 iG117 (Int32.ofInt 1) ⟨by omega, by omega⟩)) ?_
                rintro _ G130 ⟨y129, rfl, iG130, jG130, ry129, ey129, fy129⟩
                replace ey129 := And.intro (ey129 _ rfl).2.2.1 (ey129 _ rfl).2.2.2.1
                rw [← fy129, pj_bd_e]
                have kG130 : pj_kpt kc_229x G0 G130 := pj_kpt_t kG117 (pj_kpt_s jG130 rfl)
                have q131 : (pj_fi G130 171 39).toInt = (pj_fi G117 171 39).toInt := by rw [jG130.1 (171, 39) (by decide)]
                obtain ⟨y132, hy132⟩ : ∃ z : Int32, z = pj_fi G130 171 39 := ⟨_, rfl⟩
                have ey132 : (pj_fi G130 171 39).toInt = y132.toInt := by rw [hy132]
                have ry132 : (0 : Int) ≤ y132.toInt ∧ y132.toInt ≤ 60 := by rw [hy132]; exact iG130.2.1 171 39 (0, 60) rfl
                obtain ⟨y133, hy133⟩ : ∃ z : Int32, z = pj_fi G130 171 17 := ⟨_, rfl⟩
                have ey133 : (pj_fi G130 171 17).toInt = y133.toInt := by rw [hy133]
                have ry133 : (0 : Int) ≤ y133.toInt ∧ y133.toInt ≤ 80 := by rw [hy133]; exact iG130.2.1 171 17 (0, 80) rfl
                show pj_X _ _ G130 168 [(1, .int y1), (0, .ref 171)] [.int y129, .int y1, .ref 189] _
                refine pj_X_of (fun r h => pj_T_is iG130 rfl rfl (by omega) (by omega) h) ?_
                show pj_X _ _ (pj_wa G130 189 y1.toInt.toNat y129) 169 [(1, .int y1), (0, .ref 171)] [] _
                obtain ⟨G134, hG134⟩ : ∃ H, H = pj_wa G130 189 y1.toInt.toNat y129 := ⟨_, rfl⟩
                have iG134 : pj_Inv G134 := by rw [hG134]; exact pj_Inv_wa iG130 rfl (fun q hq => by cases hq) (fun n hn => by cases hn)
                have kG134 : pj_kpt kc_229x G0 G134 := by rw [hG134]; exact pj_kpt_a kG130 rfl
                rw [← hG134]
                rw [pj_nm_e]
                refine pj_X_of (fun r h => pj_R_to (G134, 170, [(1, .int y1), (0, .ref 171)], [.ref 171], 0, 0) 170 2 (fun _ => rfl) h) ?_
                refine pj_X_of (fun r h => pj_T_gr iG134 rfl rfl rfl h) ?_
                refine pj_X_of (fun r h => pj_R_to (G134, 174, [(1, .int y1), (0, .ref 171)], [.int y1, .ref 189], 0, 0) 174 2 (fun _ => rfl) h) ?_
                refine pj_X_of (fun r h => pj_T_il iG134 rfl rfl (by omega) (by omega) h) ?_
                show pj_X _ _ G134 175 [(1, .int y1), (0, .ref 171)] [.int (pj_ai G134 189 y1.toInt.toNat)] _
                obtain ⟨z135, hz135⟩ : ∃ z : Int32, z = pj_ai G134 189 y1.toInt.toNat := ⟨_, rfl⟩
                refine pj_X_eqi hz135.symm ?_
                rw [← hz135, pj_nm_e]
                have ez135 : (pj_ai G134 189 y1.toInt.toNat).toInt = z135.toInt := by rw [hz135]
                have x136 : z135.toInt = y129.toInt := by rw [hz135, show y1.toInt.toNat = y1.toInt.toNat by omega, hG134, pj_ai_wa_eq iG130.1 rfl]
                cases b137 : pj_c1 .lt z135 0 with
                | true =>
                  rw [pj_cT]
                  have ub137 := pj_u0_ltT b137
                  refine pj_X_of (fun r h => pj_R_ifT 182 rfl rfl b137 h) ?_
                  refine pj_X_of (fun r h => pj_R_to (G134, 183, [(1, .int y1), (0, .ref 171)], [.int (Int32.ofInt 0)], 0, 0) 183 2 (fun _ => rfl) h) ?_
                  have q138 : (pj_fi G134 171 39).toInt = y132.toInt := by rw [show pj_fi G134 171 39 = y132 from by rw [hG134, pj_fi_wa]; exact hy132.symm]
                  have q139 : (pj_fi G134 171 17).toInt = y133.toInt := by rw [show pj_fi G134 171 17 = y133 from by rw [hG134, pj_fi_wa]; exact hy133.symm]
                  exact pj_X_rt rfl rfl ⟨_, rfl, iG134, kG134, ⟨by omega, by omega⟩, (fun H hH => by subst hH; exact (by omega)), rfl⟩
                | false =>
                  rw [pj_cF]
                  have ub137 := pj_u0_ltF b137
                  refine pj_X_of (fun r h => pj_R_ifF rfl b137 h) ?_
                  refine pj_X_of (fun r h => pj_R_to (G134, 183, [(1, .int y1), (0, .ref 171)], [.int (Int32.ofInt 1)], 0, 0) 183 3 (fun _ => rfl) h) ?_
                  have q140 : (pj_fi G134 171 39).toInt = y132.toInt := by rw [show pj_fi G134 171 39 = y132 from by rw [hG134, pj_fi_wa]; exact hy132.symm]
                  have q141 : (pj_fi G134 171 17).toInt = y133.toInt := by rw [show pj_fi G134 171 17 = y133 from by rw [hG134, pj_fi_wa]; exact hy133.symm]
                  exact pj_X_rt rfl rfl ⟨_, rfl, iG134, kG134, ⟨by omega, by omega⟩, (fun H hH => by subst hH; exact (by omega)), rfl⟩
              | false =>
                rw [pj_cF]
                have ub126 := pj_u_neF b126
                refine pj_X_of (fun r h => pj_R_icF rfl b126 h) ?_
                refine pj_X_of (fun r h => pj_R_to (G117, 165, [(1, .int y1), (0, .ref 171)], [.int (Int32.ofInt 3), .ref 171, .int y1, .ref 189], 0, 0) 165 3 (fun _ => rfl) h) ?_
                have q142 : (pj_fi G117 171 39).toInt = y115.toInt := by rw [show pj_fi G117 171 39 = y115 from by rw [hG117, pj_fi_wa]; exact hy115.symm]
                have q143 : (pj_fi G117 171 17).toInt = y116.toInt := by rw [show pj_fi G117 171 17 = y116 from by rw [hG117, pj_fi_wa]; exact hy116.symm]
                refine pj_X_ca (vs := [.ref 171, .int (Int32.ofInt 3)]) rfl (fun _ => rfl) ⟨Nat.le_of_ble_eq_true rfl, Nat.le_of_ble_eq_true rfl, pj_T_rcv iG117 rfl⟩ ⟨rfl, rfl⟩ (pj_Y_up (by decide) (ct_186ex G117 iG117 (Int32.ofInt 3) ⟨by omega, by omega⟩)) ?_
                rintro _ G145 ⟨y144, rfl, iG145, jG145, ry144, ey144, fy144⟩
                replace ey144 := And.intro (ey144 _ rfl).2.2.1 (ey144 _ rfl).2.2.2.1
                rw [← fy144, pj_bd_e]
                have kG145 : pj_kpt kc_229x G0 G145 := pj_kpt_t kG117 (pj_kpt_s jG145 rfl)
                have q146 : (pj_fi G145 171 39).toInt = (pj_fi G117 171 39).toInt := by rw [jG145.1 (171, 39) (by decide)]
                obtain ⟨y147, hy147⟩ : ∃ z : Int32, z = pj_fi G145 171 39 := ⟨_, rfl⟩
                have ey147 : (pj_fi G145 171 39).toInt = y147.toInt := by rw [hy147]
                have ry147 : (0 : Int) ≤ y147.toInt ∧ y147.toInt ≤ 60 := by rw [hy147]; exact iG145.2.1 171 39 (0, 60) rfl
                obtain ⟨y148, hy148⟩ : ∃ z : Int32, z = pj_fi G145 171 17 := ⟨_, rfl⟩
                have ey148 : (pj_fi G145 171 17).toInt = y148.toInt := by rw [hy148]
                have ry148 : (0 : Int) ≤ y148.toInt ∧ y148.toInt ≤ 80 := by rw [hy148]; exact iG145.2.1 171 17 (0, 80) rfl
                show pj_X _ _ G145 168 [(1, .int y1), (0, .ref 171)] [.int y144, .int y1, .ref 189] _
                refine pj_X_of (fun r h => pj_T_is iG145 rfl rfl (by omega) (by omega) h) ?_
                show pj_X _ _ (pj_wa G145 189 y1.toInt.toNat y144) 169 [(1, .int y1), (0, .ref 171)] [] _
                obtain ⟨G149, hG149⟩ : ∃ H, H = pj_wa G145 189 y1.toInt.toNat y144 := ⟨_, rfl⟩
                have iG149 : pj_Inv G149 := by rw [hG149]; exact pj_Inv_wa iG145 rfl (fun q hq => by cases hq) (fun n hn => by cases hn)
                have kG149 : pj_kpt kc_229x G0 G149 := by rw [hG149]; exact pj_kpt_a kG145 rfl
                rw [← hG149]
                rw [pj_nm_e]
                refine pj_X_of (fun r h => pj_R_to (G149, 170, [(1, .int y1), (0, .ref 171)], [.ref 171], 0, 0) 170 2 (fun _ => rfl) h) ?_
                refine pj_X_of (fun r h => pj_T_gr iG149 rfl rfl rfl h) ?_
                refine pj_X_of (fun r h => pj_R_to (G149, 174, [(1, .int y1), (0, .ref 171)], [.int y1, .ref 189], 0, 0) 174 2 (fun _ => rfl) h) ?_
                refine pj_X_of (fun r h => pj_T_il iG149 rfl rfl (by omega) (by omega) h) ?_
                show pj_X _ _ G149 175 [(1, .int y1), (0, .ref 171)] [.int (pj_ai G149 189 y1.toInt.toNat)] _
                obtain ⟨z150, hz150⟩ : ∃ z : Int32, z = pj_ai G149 189 y1.toInt.toNat := ⟨_, rfl⟩
                refine pj_X_eqi hz150.symm ?_
                rw [← hz150, pj_nm_e]
                have ez150 : (pj_ai G149 189 y1.toInt.toNat).toInt = z150.toInt := by rw [hz150]
                have x151 : z150.toInt = y144.toInt := by rw [hz150, show y1.toInt.toNat = y1.toInt.toNat by omega, hG149, pj_ai_wa_eq iG145.1 rfl]
                cases b152 : pj_c1 .lt z150 0 with
                | true =>
                  rw [pj_cT]
                  have ub152 := pj_u0_ltT b152
                  refine pj_X_of (fun r h => pj_R_ifT 182 rfl rfl b152 h) ?_
                  refine pj_X_of (fun r h => pj_R_to (G149, 183, [(1, .int y1), (0, .ref 171)], [.int (Int32.ofInt 0)], 0, 0) 183 2 (fun _ => rfl) h) ?_
                  have q153 : (pj_fi G149 171 39).toInt = y147.toInt := by rw [show pj_fi G149 171 39 = y147 from by rw [hG149, pj_fi_wa]; exact hy147.symm]
                  have q154 : (pj_fi G149 171 17).toInt = y148.toInt := by rw [show pj_fi G149 171 17 = y148 from by rw [hG149, pj_fi_wa]; exact hy148.symm]
                  exact pj_X_rt rfl rfl ⟨_, rfl, iG149, kG149, ⟨by omega, by omega⟩, (fun H hH => by subst hH; exact (by omega)), rfl⟩
                | false =>
                  rw [pj_cF]
                  have ub152 := pj_u0_ltF b152
                  refine pj_X_of (fun r h => pj_R_ifF rfl b152 h) ?_
                  refine pj_X_of (fun r h => pj_R_to (G149, 183, [(1, .int y1), (0, .ref 171)], [.int (Int32.ofInt 1)], 0, 0) 183 3 (fun _ => rfl) h) ?_
                  have q155 : (pj_fi G149 171 39).toInt = y147.toInt := by rw [show pj_fi G149 171 39 = y147 from by rw [hG149, pj_fi_wa]; exact hy147.symm]
                  have q156 : (pj_fi G149 171 17).toInt = y148.toInt := by rw [show pj_fi G149 171 17 = y148 from by rw [hG149, pj_fi_wa]; exact hy148.symm]
                  exact pj_X_rt rfl rfl ⟨_, rfl, iG149, kG149, ⟨by omega, by omega⟩, (fun H hH => by subst hH; exact (by omega)), rfl⟩
            | false =>
              rw [pj_cF]
              have ub125 := pj_u0_neF b125
              refine pj_X_of (fun r h => pj_R_ifF rfl b125 h) ?_
              refine pj_X_of (fun r h => pj_R_to (G117, 129, [(1, .int y1), (0, .ref 171)], [.int ((Int8.ofInt 45).toInt32), .ref 171], 0, 0) 129 3 (fun _ => rfl) h) ?_
              have q157 : (pj_fi G117 171 39).toInt = y115.toInt := by rw [show pj_fi G117 171 39 = y115 from by rw [hG117, pj_fi_wa]; exact hy115.symm]
              have q158 : (pj_fi G117 171 17).toInt = y116.toInt := by rw [show pj_fi G117 171 17 = y116 from by rw [hG117, pj_fi_wa]; exact hy116.symm]
              refine pj_X_ca (vs := [.ref 171, .int ((Int8.ofInt 45).toInt32)]) rfl (fun _ => rfl) ⟨Nat.le_of_ble_eq_true rfl, Nat.le_of_ble_eq_true rfl, pj_T_rcv iG117 rfl⟩ ⟨rfl, rfl⟩ (pj_Y_up (by decide) (ct_182x G117 iG117 ((Int8.ofInt 45).toInt32) ⟨by omega, by omega⟩)) ?_
              rintro _ G160 ⟨y159, rfl, iG160, jG160, ry159, ey159, fy159⟩
              replace ey159 := (ey159 _ rfl).1
              rw [← fy159, pj_bd_e]
              have kG160 : pj_kpt kc_229x G0 G160 := pj_kpt_t kG117 (pj_kpt_s jG160 rfl)
              have q161 : (pj_fi G160 171 39).toInt = (pj_fi G117 171 39).toInt := by rw [jG160.1 (171, 39) (by decide)]
              obtain ⟨y162, hy162⟩ : ∃ z : Int32, z = pj_fi G160 171 39 := ⟨_, rfl⟩
              have ey162 : (pj_fi G160 171 39).toInt = y162.toInt := by rw [hy162]
              have ry162 : (0 : Int) ≤ y162.toInt ∧ y162.toInt ≤ 60 := by rw [hy162]; exact iG160.2.1 171 39 (0, 60) rfl
              obtain ⟨y163, hy163⟩ : ∃ z : Int32, z = pj_fi G160 171 17 := ⟨_, rfl⟩
              have ey163 : (pj_fi G160 171 17).toInt = y163.toInt := by rw [hy163]
              have ry163 : (0 : Int) ≤ y163.toInt ∧ y163.toInt ≤ 80 := by rw [hy163]; exact iG160.2.1 171 17 (0, 80) rfl
              show pj_X _ _ G160 132 [(1, .int y1), (0, .ref 171)] [.int y159] _
              cases b164 : pj_c1 .eq y159 0 with
              | true =>
                rw [pj_cT]
                have ub164 := pj_u0_eqT b164
                refine pj_X_of (fun r h => pj_R_ifT 144 rfl rfl b164 h) ?_
                refine pj_X_of (fun r h => pj_R_to (G160, 145, [(1, .int y1), (0, .ref 171)], [.ref 171], 0, 0) 145 2 (fun _ => rfl) h) ?_
                refine pj_X_of (fun r h => pj_T_gr iG160 rfl rfl rfl h) ?_
                refine pj_X_of (fun r h => pj_R_to (G160, 151, [(1, .int y1), (0, .ref 171)], [.ref 171, .ref 171, .int y1, .ref 189], 0, 0) 151 4 (fun _ => rfl) h) ?_
                refine pj_X_of (fun r h => pj_T_gr iG160 rfl rfl rfl h) ?_
                refine pj_X_of (fun r h => pj_R_to (G160, 155, [(1, .int y1), (0, .ref 171)], [.int y1, .ref 187, .ref 171, .int y1, .ref 189], 0, 0) 155 2 (fun _ => rfl) h) ?_
                refine pj_X_of (fun r h => pj_T_il iG160 rfl rfl (by omega) (by omega) h) ?_
                show pj_X _ _ G160 156 [(1, .int y1), (0, .ref 171)] [.int (pj_ai G160 187 y1.toInt.toNat), .ref 171, .int y1, .ref 189] _
                obtain ⟨z165, hz165⟩ : ∃ z : Int32, z = pj_ai G160 187 y1.toInt.toNat := ⟨_, rfl⟩
                refine pj_X_eqi hz165.symm ?_
                rw [← hz165, pj_nm_e]
                have ez165 : (pj_ai G160 187 y1.toInt.toNat).toInt = z165.toInt := by rw [hz165]
                refine pj_X_of (fun r h => pj_R_to (G160, 157, [(1, .int y1), (0, .ref 171)], [.int (Int32.ofInt 1), .int z165, .ref 171, .int y1, .ref 189], 0, 0) 157 2 (fun _ => rfl) h) ?_
                cases b166 : pj_c1 .ne z165 (Int32.ofInt 1) with
                | true =>
                  rw [pj_cT]
                  have ub166 := pj_u_neT b166
                  refine pj_X_of (fun r h => pj_R_icT 164 rfl rfl b166 h) ?_
                  refine pj_X_of (fun r h => pj_R_to (G160, 165, [(1, .int y1), (0, .ref 171)], [.int (Int32.ofInt 1), .ref 171, .int y1, .ref 189], 0, 0) 165 2 (fun _ => rfl) h) ?_
                  have q167 : (pj_fi G160 171 39).toInt = y162.toInt := by rw [show pj_fi G160 171 39 = y162 from hy162.symm]
                  have q168 : (pj_fi G160 171 17).toInt = y163.toInt := by rw [show pj_fi G160 171 17 = y163 from hy163.symm]
                  refine pj_X_ca (vs := [.ref 171, .int (Int32.ofInt 1)]) rfl (fun _ => rfl) ⟨Nat.le_of_ble_eq_true rfl, Nat.le_of_ble_eq_true rfl, pj_T_rcv iG160 rfl⟩ ⟨rfl, rfl⟩ (pj_Y_up (by decide) (ct_186ex G160 iG160 (Int32.ofInt 1) ⟨by omega, by omega⟩)) ?_
                  rintro _ G170 ⟨y169, rfl, iG170, jG170, ry169, ey169, fy169⟩
                  replace ey169 := And.intro (ey169 _ rfl).2.2.1 (ey169 _ rfl).2.2.2.1
                  rw [← fy169, pj_bd_e]
                  have kG170 : pj_kpt kc_229x G0 G170 := pj_kpt_t kG160 (pj_kpt_s jG170 rfl)
                  have q171 : (pj_fi G170 171 39).toInt = (pj_fi G160 171 39).toInt := by rw [jG170.1 (171, 39) (by decide)]
                  obtain ⟨y172, hy172⟩ : ∃ z : Int32, z = pj_fi G170 171 39 := ⟨_, rfl⟩
                  have ey172 : (pj_fi G170 171 39).toInt = y172.toInt := by rw [hy172]
                  have ry172 : (0 : Int) ≤ y172.toInt ∧ y172.toInt ≤ 60 := by rw [hy172]; exact iG170.2.1 171 39 (0, 60) rfl
                  obtain ⟨y173, hy173⟩ : ∃ z : Int32, z = pj_fi G170 171 17 := ⟨_, rfl⟩
                  have ey173 : (pj_fi G170 171 17).toInt = y173.toInt := by rw [hy173]
                  have ry173 : (0 : Int) ≤ y173.toInt ∧ y173.toInt ≤ 80 := by rw [hy173]; exact iG170.2.1 171 17 (0, 80) rfl
                  show pj_X _ _ G170 168 [(1, .int y1), (0, .ref 171)] [.int y169, .int y1, .ref 189] _
                  refine pj_X_of (fun r h => pj_T_is iG170 rfl rfl (by omega) (by omega) h) ?_
                  show pj_X _ _ (pj_wa G170 189 y1.toInt.toNat y169) 169 [(1, .int y1), (0, .ref 171)] [] _
                  obtain ⟨G174, hG174⟩ : ∃ H, H = pj_wa G170 189 y1.toInt.toNat y169 := ⟨_, rfl⟩
                  have iG174 : pj_Inv G174 := by rw [hG174]; exact pj_Inv_wa iG170 rfl (fun q hq => by cases hq) (fun n hn => by cases hn)
                  have kG174 : pj_kpt kc_229x G0 G174 := by rw [hG174]; exact pj_kpt_a kG170 rfl
                  rw [← hG174]
                  rw [pj_nm_e]
                  refine pj_X_of (fun r h => pj_R_to (G174, 170, [(1, .int y1), (0, .ref 171)], [.ref 171], 0, 0) 170 2 (fun _ => rfl) h) ?_
                  refine pj_X_of (fun r h => pj_T_gr iG174 rfl rfl rfl h) ?_
                  refine pj_X_of (fun r h => pj_R_to (G174, 174, [(1, .int y1), (0, .ref 171)], [.int y1, .ref 189], 0, 0) 174 2 (fun _ => rfl) h) ?_
                  refine pj_X_of (fun r h => pj_T_il iG174 rfl rfl (by omega) (by omega) h) ?_
                  show pj_X _ _ G174 175 [(1, .int y1), (0, .ref 171)] [.int (pj_ai G174 189 y1.toInt.toNat)] _
                  obtain ⟨z175, hz175⟩ : ∃ z : Int32, z = pj_ai G174 189 y1.toInt.toNat := ⟨_, rfl⟩
                  refine pj_X_eqi hz175.symm ?_
                  rw [← hz175, pj_nm_e]
                  have ez175 : (pj_ai G174 189 y1.toInt.toNat).toInt = z175.toInt := by rw [hz175]
                  have x176 : z175.toInt = y169.toInt := by rw [hz175, show y1.toInt.toNat = y1.toInt.toNat by omega, hG174, pj_ai_wa_eq iG170.1 rfl]
                  cases b177 : pj_c1 .lt z175 0 with
                  | true =>
                    rw [pj_cT]
                    have ub177 := pj_u0_ltT b177
                    refine pj_X_of (fun r h => pj_R_ifT 182 rfl rfl b177 h) ?_
                    refine pj_X_of (fun r h => pj_R_to (G174, 183, [(1, .int y1), (0, .ref 171)], [.int (Int32.ofInt 0)], 0, 0) 183 2 (fun _ => rfl) h) ?_
                    have q178 : (pj_fi G174 171 39).toInt = y172.toInt := by rw [show pj_fi G174 171 39 = y172 from by rw [hG174, pj_fi_wa]; exact hy172.symm]
                    have q179 : (pj_fi G174 171 17).toInt = y173.toInt := by rw [show pj_fi G174 171 17 = y173 from by rw [hG174, pj_fi_wa]; exact hy173.symm]
                    exact pj_X_rt rfl rfl ⟨_, rfl, iG174, kG174, ⟨by omega, by omega⟩, (fun H hH => by subst hH; exact (by omega)), rfl⟩
                  | false =>
                    rw [pj_cF]
                    have ub177 := pj_u0_ltF b177
                    refine pj_X_of (fun r h => pj_R_ifF rfl b177 h) ?_
                    refine pj_X_of (fun r h => pj_R_to (G174, 183, [(1, .int y1), (0, .ref 171)], [.int (Int32.ofInt 1)], 0, 0) 183 3 (fun _ => rfl) h) ?_
                    have q180 : (pj_fi G174 171 39).toInt = y172.toInt := by rw [show pj_fi G174 171 39 = y172 from by rw [hG174, pj_fi_wa]; exact hy172.symm]
                    have q181 : (pj_fi G174 171 17).toInt = y173.toInt := by rw [show pj_fi G174 171 17 = y173 from by rw [hG174, pj_fi_wa]; exact hy173.symm]
                    exact pj_X_rt rfl rfl ⟨_, rfl, iG174, kG174, ⟨by omega, by omega⟩, (fun H hH => by subst hH; exact (by omega)), rfl⟩
                | false =>
                  rw [pj_cF]
                  have ub166 := pj_u_neF b166
                  refine pj_X_of (fun r h => pj_R_icF rfl b166 h) ?_
                  refine pj_X_of (fun r h => pj_R_to (G160, 165, [(1, .int y1), (0, .ref 171)], [.int (Int32.ofInt 3), .ref 171, .int y1, .ref 189], 0, 0) 165 3 (fun _ => rfl) h) ?_
                  have q182 : (pj_fi G160 171 39).toInt = y162.toInt := by rw [show pj_fi G160 171 39 = y162 from hy162.symm]
                  have q183 : (pj_fi G160 171 17).toInt = y163.toInt := by rw [show pj_fi G160 171 17 = y163 from hy163.symm]
                  refine pj_X_ca (vs := [.ref 171, .int (Int32.ofInt 3)]) rfl (fun _ => rfl) ⟨Nat.le_of_ble_eq_true rfl, Nat.le_of_ble_eq_true rfl, pj_T_rcv iG160 rfl⟩ ⟨rfl, rfl⟩ (pj_Y_up (by decide) (ct_186ex G160 iG160 (Int32.ofInt 3) ⟨by omega, by omega⟩)) ?_
                  rintro _ G185 ⟨y184, rfl, iG185, jG185, ry184, ey184, fy184⟩
                  replace ey184 := And.intro (ey184 _ rfl).2.2.1 (ey184 _ rfl).2.2.2.1
                  rw [← fy184, pj_bd_e]
                  have kG185 : pj_kpt kc_229x G0 G185 := pj_kpt_t kG160 (pj_kpt_s jG185 rfl)
                  have q186 : (pj_fi G185 171 39).toInt = (pj_fi G160 171 39).toInt := by rw [jG185.1 (171, 39) (by decide)]
                  obtain ⟨y187, hy187⟩ : ∃ z : Int32, z = pj_fi G185 171 39 := ⟨_, rfl⟩
                  have ey187 : (pj_fi G185 171 39).toInt = y187.toInt := by rw [hy187]
                  have ry187 : (0 : Int) ≤ y187.toInt ∧ y187.toInt ≤ 60 := by rw [hy187]; exact iG185.2.1 171 39 (0, 60) rfl
                  obtain ⟨y188, hy188⟩ : ∃ z : Int32, z = pj_fi G185 171 17 := ⟨_, rfl⟩
                  have ey188 : (pj_fi G185 171 17).toInt = y188.toInt := by rw [hy188]
                  have ry188 : (0 : Int) ≤ y188.toInt ∧ y188.toInt ≤ 80 := by rw [hy188]; exact iG185.2.1 171 17 (0, 80) rfl
                  show pj_X _ _ G185 168 [(1, .int y1), (0, .ref 171)] [.int y184, .int y1, .ref 189] _
                  refine pj_X_of (fun r h => pj_T_is iG185 rfl rfl (by omega) (by omega) h) ?_
                  show pj_X _ _ (pj_wa G185 189 y1.toInt.toNat y184) 169 [(1, .int y1), (0, .ref 171)] [] _
                  obtain ⟨G189, hG189⟩ : ∃ H, H = pj_wa G185 189 y1.toInt.toNat y184 := ⟨_, rfl⟩
                  have iG189 : pj_Inv G189 := by rw [hG189]; exact pj_Inv_wa iG185 rfl (fun q hq => by cases hq) (fun n hn => by cases hn)
                  have kG189 : pj_kpt kc_229x G0 G189 := by rw [hG189]; exact pj_kpt_a kG185 rfl
                  rw [← hG189]
                  rw [pj_nm_e]
                  refine pj_X_of (fun r h => pj_R_to (G189, 170, [(1, .int y1), (0, .ref 171)], [.ref 171], 0, 0) 170 2 (fun _ => rfl) h) ?_
                  refine pj_X_of (fun r h => pj_T_gr iG189 rfl rfl rfl h) ?_
                  refine pj_X_of (fun r h => pj_R_to (G189, 174, [(1, .int y1), (0, .ref 171)], [.int y1, .ref 189], 0, 0) 174 2 (fun _ => rfl) h) ?_
                  refine pj_X_of (fun r h => pj_T_il iG189 rfl rfl (by omega) (by omega) h) ?_
                  show pj_X _ _ G189 175 [(1, .int y1), (0, .ref 171)] [.int (pj_ai G189 189 y1.toInt.toNat)] _
                  obtain ⟨z190, hz190⟩ : ∃ z : Int32, z = pj_ai G189 189 y1.toInt.toNat := ⟨_, rfl⟩
                  refine pj_X_eqi hz190.symm ?_
                  rw [← hz190, pj_nm_e]
                  have ez190 : (pj_ai G189 189 y1.toInt.toNat).toInt = z190.toInt := by rw [hz190]
                  have x191 : z190.toInt = y184.toInt := by rw [hz190, show y1.toInt.toNat = y1.toInt.toNat by omega, hG189, pj_ai_wa_eq iG185.1 rfl]
                  cases b192 : pj_c1 .lt z190 0 with
                  | true =>
                    rw [pj_cT]
                    have ub192 := pj_u0_ltT b192
                    refine pj_X_of (fun r h => pj_R_ifT 182 rfl rfl b192 h) ?_
                    refine pj_X_of (fun r h => pj_R_to (G189, 183, [(1, .int y1), (0, .ref 171)], [.int (Int32.ofInt 0)], 0, 0) 183 2 (fun _ => rfl) h) ?_
                    have q193 : (pj_fi G189 171 39).toInt = y187.toInt := by rw [show pj_fi G189 171 39 = y187 from by rw [hG189, pj_fi_wa]; exact hy187.symm]
                    have q194 : (pj_fi G189 171 17).toInt = y188.toInt := by rw [show pj_fi G189 171 17 = y188 from by rw [hG189, pj_fi_wa]; exact hy188.symm]
                    exact pj_X_rt rfl rfl ⟨_, rfl, iG189, kG189, ⟨by omega, by omega⟩, (fun H hH => by subst hH; exact (by omega)), rfl⟩
                  | false =>
                    rw [pj_cF]
                    have ub192 := pj_u0_ltF b192
                    refine pj_X_of (fun r h => pj_R_ifF rfl b192 h) ?_
                    refine pj_X_of (fun r h => pj_R_to (G189, 183, [(1, .int y1), (0, .ref 171)], [.int (Int32.ofInt 1)], 0, 0) 183 3 (fun _ => rfl) h) ?_
                    have q195 : (pj_fi G189 171 39).toInt = y187.toInt := by rw [show pj_fi G189 171 39 = y187 from by rw [hG189, pj_fi_wa]; exact hy187.symm]
                    have q196 : (pj_fi G189 171 17).toInt = y188.toInt := by rw [show pj_fi G189 171 17 = y188 from by rw [hG189, pj_fi_wa]; exact hy188.symm]
                    exact pj_X_rt rfl rfl ⟨_, rfl, iG189, kG189, ⟨by omega, by omega⟩, (fun H hH => by subst hH; exact (by omega)), rfl⟩
              | false =>
                rw [pj_cF]
                have ub164 := pj_u0_eqF b164
                refine pj_X_of (fun r h => pj_R_ifF rfl b164 h) ?_
                refine pj_X_of (fun r h => pj_R_to (G160, 136, [(1, .int y1), (0, .ref 171)], [.ref 171], 0, 0) 136 2 (fun _ => rfl) h) ?_
                refine pj_X_of (fun r h => pj_T_gr iG160 rfl rfl rfl h) ?_
                refine pj_X_of (fun r h => pj_R_to (G160, 141, [(1, .int y1), (0, .ref 171)], [.int (Int32.ofInt (-1)), .int y1, .ref 189], 0, 0) 141 3 (fun _ => rfl) h) ?_
                refine pj_X_of (fun r h => pj_T_is iG160 rfl rfl (by omega) (by omega) h) ?_
                show pj_X _ _ (pj_wa G160 189 y1.toInt.toNat (Int32.ofInt (-1))) 142 [(1, .int y1), (0, .ref 171)] [] _
                obtain ⟨G197, hG197⟩ : ∃ H, H = pj_wa G160 189 y1.toInt.toNat (Int32.ofInt (-1)) := ⟨_, rfl⟩
                have iG197 : pj_Inv G197 := by rw [hG197]; exact pj_Inv_wa iG160 rfl (fun q hq => by cases hq) (fun n hn => by cases hn)
                have kG197 : pj_kpt kc_229x G0 G197 := by rw [hG197]; exact pj_kpt_a kG160 rfl
                rw [← hG197]
                rw [pj_nm_e]
                refine pj_X_of (fun r h => pj_R_to (G197, 143, [(1, .int y1), (0, .ref 171)], [.int (Int32.ofInt 1)], 0, 0) 143 2 (fun _ => rfl) h) ?_
                have q198 : (pj_fi G197 171 39).toInt = y162.toInt := by rw [show pj_fi G197 171 39 = y162 from by rw [hG197, pj_fi_wa]; exact hy162.symm]
                have q199 : (pj_fi G197 171 17).toInt = y163.toInt := by rw [show pj_fi G197 171 17 = y163 from by rw [hG197, pj_fi_wa]; exact hy163.symm]
                exact pj_X_rt rfl rfl ⟨_, rfl, iG197, kG197, ⟨by omega, by omega⟩, (fun H hH => by subst hH; exact (by omega)), rfl⟩
          | false =>
            rw [pj_cF]
            have ub124 := pj_u_neF b124
            refine pj_X_of (fun r h => pj_R_icF rfl b124 h) ?_
            refine pj_X_of (fun r h => pj_R_to (G117, 103, [(1, .int y1), (0, .ref 171)], [.ref 171], 0, 0) 103 2 (fun _ => rfl) h) ?_
            refine pj_X_of (fun r h => pj_T_gr iG117 rfl rfl rfl h) ?_
            refine pj_X_of (fun r h => pj_R_to (G117, 107, [(1, .int y1), (0, .ref 171)], [.int y1, .ref 188], 0, 0) 107 2 (fun _ => rfl) h) ?_
            refine pj_X_of (fun r h => pj_T_il iG117 rfl rfl (by omega) (by omega) h) ?_
            show pj_X _ _ G117 108 [(1, .int y1), (0, .ref 171)] [.int (pj_ai G117 188 y1.toInt.toNat)] _
            refine pj_X_eqi hz118.symm ?_
            refine pj_X_of (fun r h => pj_R_ifF rfl (pj_b0_ltF (by omega)) h) ?_
            refine pj_X_of (fun r h => pj_R_to (G117, 116, [(1, .int y1), (0, .ref 171)], [.int (Int32.ofInt 1)], 0, 0) 116 3 (fun _ => rfl) h) ?_
            have q200 : (pj_fi G117 171 39).toInt = y115.toInt := by rw [show pj_fi G117 171 39 = y115 from by rw [hG117, pj_fi_wa]; exact hy115.symm]
            have q201 : (pj_fi G117 171 17).toInt = y116.toInt := by rw [show pj_fi G117 171 17 = y116 from by rw [hG117, pj_fi_wa]; exact hy116.symm]
            exact pj_X_rt rfl rfl ⟨_, rfl, iG117, kG117, ⟨by omega, by omega⟩, (fun H hH => by subst hH; exact (by omega)), rfl⟩
    | false =>
      rw [pj_cF]
      have ub16 := pj_u_neF b16
      refine pj_X_of (fun r h => pj_R_icF rfl b16 h) ?_
      refine pj_X_of (fun r h => pj_R_to (G12, 57, [(1, .int y1), (0, .ref 171)], [.int ((Int8.ofInt 6).toInt32), .ref 171, .int y1, .ref 188], 0, 0) 57 3 (fun _ => rfl) h) ?_
      have q202 : (pj_fi G12 171 39).toInt = z11.toInt := by rw [show pj_fi G12 171 39 = z11 from by rw [hG12]; exact pj_fi_wi iG10.1 (ci := 12) rfl _]
      have q203 : (pj_fi G12 171 17).toInt = y9.toInt := by rw [show pj_fi G12 171 17 = y9 from by rw [hG12, pj_fi_wv_ne _ _ _ _ _ _ (by decide)]; exact (by rw [hG10, pj_fi_wa]; exact hy9.symm)]
      refine pj_X_ca (vs := [.ref 171, .int ((Int8.ofInt 6).toInt32)]) rfl (fun _ => rfl) ⟨Nat.le_of_ble_eq_true rfl, Nat.le_of_ble_eq_true rfl, pj_T_rcv iG12 rfl⟩ ⟨rfl, rfl⟩ (pj_Y_up (by decide) (ct_187x G12 iG12 ((Int8.ofInt 6).toInt32) ⟨by omega, by omega⟩)) ?_
      rintro _ G205 ⟨y204, rfl, iG205, jG205, ry204, ey204, fy204⟩
      replace ey204 := (ey204 _ rfl).1
      rw [← fy204, pj_bd_e]
      have kG205 : pj_kpt kc_229x G0 G205 := pj_kpt_t kG12 (pj_kpt_s jG205 rfl)
      have q206 : (pj_fi G205 171 39).toInt = (pj_fi G12 171 39).toInt := by rw [jG205.1 (171, 39) (by decide)]
      obtain ⟨y207, hy207⟩ : ∃ z : Int32, z = pj_fi G205 171 39 := ⟨_, rfl⟩
      have ey207 : (pj_fi G205 171 39).toInt = y207.toInt := by rw [hy207]
      have ry207 : (0 : Int) ≤ y207.toInt ∧ y207.toInt ≤ 60 := by rw [hy207]; exact iG205.2.1 171 39 (0, 60) rfl
      obtain ⟨y208, hy208⟩ : ∃ z : Int32, z = pj_fi G205 171 17 := ⟨_, rfl⟩
      have ey208 : (pj_fi G205 171 17).toInt = y208.toInt := by rw [hy208]
      have ry208 : (0 : Int) ≤ y208.toInt ∧ y208.toInt ≤ 80 := by rw [hy208]; exact iG205.2.1 171 17 (0, 80) rfl
      show pj_X _ _ G205 60 [(1, .int y1), (0, .ref 171)] [.int y204, .int y1, .ref 188] _
      refine pj_X_of (fun r h => pj_R_to (G205, 82, [(1, .int y1), (0, .ref 171)], [.int y204, .int y1, .ref 188], 0, 0) 82 2 (fun _ => rfl) h) ?_
      refine pj_X_of (fun r h => pj_T_is iG205 rfl rfl (by omega) (by omega) h) ?_
      show pj_X _ _ (pj_wa G205 188 y1.toInt.toNat y204) 83 [(1, .int y1), (0, .ref 171)] [] _
      obtain ⟨G209, hG209⟩ : ∃ H, H = pj_wa G205 188 y1.toInt.toNat y204 := ⟨_, rfl⟩
      have iG209 : pj_Inv G209 := by rw [hG209]; exact pj_Inv_wa iG205 rfl (fun q hq => by cases hq) (fun n hn => by cases hn)
      have kG209 : pj_kpt kc_229x G0 G209 := by rw [hG209]; exact pj_kpt_a kG205 rfl
      rw [← hG209]
      rw [pj_nm_e]
      refine pj_X_of (fun r h => pj_R_to (G209, 84, [(1, .int y1), (0, .ref 171)], [.ref 171], 0, 0) 84 2 (fun _ => rfl) h) ?_
      refine pj_X_of (fun r h => pj_T_gr iG209 rfl rfl rfl h) ?_
      refine pj_X_of (fun r h => pj_R_to (G209, 88, [(1, .int y1), (0, .ref 171)], [.int y1, .ref 188], 0, 0) 88 2 (fun _ => rfl) h) ?_
      refine pj_X_of (fun r h => pj_T_il iG209 rfl rfl (by omega) (by omega) h) ?_
      show pj_X _ _ G209 89 [(1, .int y1), (0, .ref 171)] [.int (pj_ai G209 188 y1.toInt.toNat)] _
      obtain ⟨z210, hz210⟩ : ∃ z : Int32, z = pj_ai G209 188 y1.toInt.toNat := ⟨_, rfl⟩
      refine pj_X_eqi hz210.symm ?_
      rw [← hz210, pj_nm_e]
      have ez210 : (pj_ai G209 188 y1.toInt.toNat).toInt = z210.toInt := by rw [hz210]
      have x211 : z210.toInt = y204.toInt := by rw [hz210, show y1.toInt.toNat = y1.toInt.toNat by omega, hG209, pj_ai_wa_eq iG205.1 rfl]
      cases b212 : pj_c1 .lt z210 0 with
      | true =>
        rw [pj_cT]
        have ub212 := pj_u0_ltT b212
        refine pj_X_of (fun r h => pj_R_ifT 102 rfl rfl b212 h) ?_
        refine pj_X_of (fun r h => pj_R_to (G209, 103, [(1, .int y1), (0, .ref 171)], [.ref 171], 0, 0) 103 2 (fun _ => rfl) h) ?_
        refine pj_X_of (fun r h => pj_T_gr iG209 rfl rfl rfl h) ?_
        refine pj_X_of (fun r h => pj_R_to (G209, 107, [(1, .int y1), (0, .ref 171)], [.int y1, .ref 188], 0, 0) 107 2 (fun _ => rfl) h) ?_
        refine pj_X_of (fun r h => pj_T_il iG209 rfl rfl (by omega) (by omega) h) ?_
        show pj_X _ _ G209 108 [(1, .int y1), (0, .ref 171)] [.int (pj_ai G209 188 y1.toInt.toNat)] _
        refine pj_X_eqi hz210.symm ?_
        refine pj_X_of (fun r h => pj_R_ifT 115 rfl rfl (pj_b0_ltT (by omega)) h) ?_
        refine pj_X_of (fun r h => pj_R_to (G209, 116, [(1, .int y1), (0, .ref 171)], [.int (Int32.ofInt 0)], 0, 0) 116 2 (fun _ => rfl) h) ?_
        have q213 : (pj_fi G209 171 39).toInt = y207.toInt := by rw [show pj_fi G209 171 39 = y207 from by rw [hG209, pj_fi_wa]; exact hy207.symm]
        have q214 : (pj_fi G209 171 17).toInt = y208.toInt := by rw [show pj_fi G209 171 17 = y208 from by rw [hG209, pj_fi_wa]; exact hy208.symm]
        exact pj_X_rt rfl rfl ⟨_, rfl, iG209, kG209, ⟨by omega, by omega⟩, (fun H hH => by subst hH; exact (by omega)), rfl⟩
      | false =>
        rw [pj_cF]
        have ub212 := pj_u0_ltF b212
        refine pj_X_of (fun r h => pj_R_ifF rfl b212 h) ?_
        refine pj_X_of (fun r h => pj_R_to (G209, 93, [(1, .int y1), (0, .ref 171)], [.ref 171], 0, 0) 93 2 (fun _ => rfl) h) ?_
        refine pj_X_of (fun r h => pj_T_gr iG209 rfl rfl rfl h) ?_
        refine pj_X_of (fun r h => pj_R_to (G209, 97, [(1, .int y1), (0, .ref 171)], [.int y1, .ref 187], 0, 0) 97 2 (fun _ => rfl) h) ?_
        refine pj_X_of (fun r h => pj_T_il iG209 rfl rfl (by omega) (by omega) h) ?_
        show pj_X _ _ G209 98 [(1, .int y1), (0, .ref 171)] [.int (pj_ai G209 187 y1.toInt.toNat)] _
        obtain ⟨z215, hz215⟩ : ∃ z : Int32, z = pj_ai G209 187 y1.toInt.toNat := ⟨_, rfl⟩
        refine pj_X_eqi hz215.symm ?_
        rw [← hz215, pj_nm_e]
        have ez215 : (pj_ai G209 187 y1.toInt.toNat).toInt = z215.toInt := by rw [hz215]
        refine pj_X_of (fun r h => pj_R_to (G209, 99, [(1, .int y1), (0, .ref 171)], [.int (Int32.ofInt 3), .int z215], 0, 0) 99 2 (fun _ => rfl) h) ?_
        cases b216 : pj_c1 .ne z215 (Int32.ofInt 3) with
        | true =>
          rw [pj_cT]
          have ub216 := pj_u_neT b216
          refine pj_X_of (fun r h => pj_R_icT 117 rfl rfl b216 h) ?_
          refine pj_X_of (fun r h => pj_R_to (G209, 118, [(1, .int y1), (0, .ref 171)], [.ref 171], 0, 0) 118 2 (fun _ => rfl) h) ?_
          refine pj_X_of (fun r h => pj_T_gr iG209 rfl rfl rfl h) ?_
          refine pj_X_of (fun r h => pj_R_to (G209, 122, [(1, .int y1), (0, .ref 171)], [.int y1, .ref 187], 0, 0) 122 2 (fun _ => rfl) h) ?_
          refine pj_X_of (fun r h => pj_T_il iG209 rfl rfl (by omega) (by omega) h) ?_
          show pj_X _ _ G209 123 [(1, .int y1), (0, .ref 171)] [.int (pj_ai G209 187 y1.toInt.toNat)] _
          refine pj_X_eqi hz215.symm ?_
          cases b217 : pj_c1 .ne z215 0 with
          | true =>
            rw [pj_cT]
            have ub217 := pj_u0_neT b217
            refine pj_X_of (fun r h => pj_R_ifT 144 rfl rfl b217 h) ?_
            refine pj_X_of (fun r h => pj_R_to (G209, 145, [(1, .int y1), (0, .ref 171)], [.ref 171], 0, 0) 145 2 (fun _ => rfl) h) ?_
            refine pj_X_of (fun r h => pj_T_gr iG209 rfl rfl rfl h) ?_
            refine pj_X_of (fun r h => pj_R_to (G209, 151, [(1, .int y1), (0, .ref 171)], [.ref 171, .ref 171, .int y1, .ref 189], 0, 0) 151 4 (fun _ => rfl) h) ?_
            refine pj_X_of (fun r h => pj_T_gr iG209 rfl rfl rfl h) ?_
            refine pj_X_of (fun r h => pj_R_to (G209, 155, [(1, .int y1), (0, .ref 171)], [.int y1, .ref 187, .ref 171, .int y1, .ref 189], 0, 0) 155 2 (fun _ => rfl) h) ?_
            refine pj_X_of (fun r h => pj_T_il iG209 rfl rfl (by omega) (by omega) h) ?_
            show pj_X _ _ G209 156 [(1, .int y1), (0, .ref 171)] [.int (pj_ai G209 187 y1.toInt.toNat), .ref 171, .int y1, .ref 189] _
            refine pj_X_eqi hz215.symm ?_
            refine pj_X_of (fun r h => pj_R_to (G209, 157, [(1, .int y1), (0, .ref 171)], [.int (Int32.ofInt 1), .int z215, .ref 171, .int y1, .ref 189], 0, 0) 157 2 (fun _ => rfl) h) ?_
            cases b218 : pj_c1 .ne z215 (Int32.ofInt 1) with
            | true =>
              rw [pj_cT]
              have ub218 := pj_u_neT b218
              refine pj_X_of (fun r h => pj_R_icT 164 rfl rfl b218 h) ?_
              refine pj_X_of (fun r h => pj_R_to (G209, 165, [(1, .int y1), (0, .ref 171)], [.int (Int32.ofInt 1), .ref 171, .int y1, .ref 189], 0, 0) 165 2 (fun _ => rfl) h) ?_
              have q219 : (pj_fi G209 171 39).toInt = y207.toInt := by rw [show pj_fi G209 171 39 = y207 from by rw [hG209, pj_fi_wa]; exact hy207.symm]
              have q220 : (pj_fi G209 171 17).toInt = y208.toInt := by rw [show pj_fi G209 171 17 = y208 from by rw [hG209, pj_fi_wa]; exact hy208.symm]
              refine pj_X_ca (vs := [.ref 171, .int (Int32.ofInt 1)]) rfl (fun _ => rfl) ⟨Nat.le_of_ble_eq_true rfl, Nat.le_of_ble_eq_true rfl, pj_T_rcv iG209 rfl⟩ ⟨rfl, rfl⟩ (pj_Y_up (by decide) (ct_186ex G209 iG209 (Int32.ofInt 1) ⟨by omega, by omega⟩)) ?_
              rintro _ G222 ⟨y221, rfl, iG222, jG222, ry221, ey221, fy221⟩
              replace ey221 := And.intro (ey221 _ rfl).2.2.1 (ey221 _ rfl).2.2.2.1
              rw [← fy221, pj_bd_e]
              have kG222 : pj_kpt kc_229x G0 G222 := pj_kpt_t kG209 (pj_kpt_s jG222 rfl)
              have q223 : (pj_fi G222 171 39).toInt = (pj_fi G209 171 39).toInt := by rw [jG222.1 (171, 39) (by decide)]
              obtain ⟨y224, hy224⟩ : ∃ z : Int32, z = pj_fi G222 171 39 := ⟨_, rfl⟩
              have ey224 : (pj_fi G222 171 39).toInt = y224.toInt := by rw [hy224]
              have ry224 : (0 : Int) ≤ y224.toInt ∧ y224.toInt ≤ 60 := by rw [hy224]; exact iG222.2.1 171 39 (0, 60) rfl
              obtain ⟨y225, hy225⟩ : ∃ z : Int32, z = pj_fi G222 171 17 := ⟨_, rfl⟩
              have ey225 : (pj_fi G222 171 17).toInt = y225.toInt := by rw [hy225]
              have ry225 : (0 : Int) ≤ y225.toInt ∧ y225.toInt ≤ 80 := by rw [hy225]; exact iG222.2.1 171 17 (0, 80) rfl
              show pj_X _ _ G222 168 [(1, .int y1), (0, .ref 171)] [.int y221, .int y1, .ref 189] _
              refine pj_X_of (fun r h => pj_T_is iG222 rfl rfl (by omega) (by omega) h) ?_
              show pj_X _ _ (pj_wa G222 189 y1.toInt.toNat y221) 169 [(1, .int y1), (0, .ref 171)] [] _
              obtain ⟨G226, hG226⟩ : ∃ H, H = pj_wa G222 189 y1.toInt.toNat y221 := ⟨_, rfl⟩
              have iG226 : pj_Inv G226 := by rw [hG226]; exact pj_Inv_wa iG222 rfl (fun q hq => by cases hq) (fun n hn => by cases hn)
              have kG226 : pj_kpt kc_229x G0 G226 := by rw [hG226]; exact pj_kpt_a kG222 rfl
              rw [← hG226]
              rw [pj_nm_e]
              refine pj_X_of (fun r h => pj_R_to (G226, 170, [(1, .int y1), (0, .ref 171)], [.ref 171], 0, 0) 170 2 (fun _ => rfl) h) ?_
              refine pj_X_of (fun r h => pj_T_gr iG226 rfl rfl rfl h) ?_
              refine pj_X_of (fun r h => pj_R_to (G226, 174, [(1, .int y1), (0, .ref 171)], [.int y1, .ref 189], 0, 0) 174 2 (fun _ => rfl) h) ?_
              refine pj_X_of (fun r h => pj_T_il iG226 rfl rfl (by omega) (by omega) h) ?_
              show pj_X _ _ G226 175 [(1, .int y1), (0, .ref 171)] [.int (pj_ai G226 189 y1.toInt.toNat)] _
              obtain ⟨z227, hz227⟩ : ∃ z : Int32, z = pj_ai G226 189 y1.toInt.toNat := ⟨_, rfl⟩
              refine pj_X_eqi hz227.symm ?_
              rw [← hz227, pj_nm_e]
              have ez227 : (pj_ai G226 189 y1.toInt.toNat).toInt = z227.toInt := by rw [hz227]
              have x228 : z227.toInt = y221.toInt := by rw [hz227, show y1.toInt.toNat = y1.toInt.toNat by omega, hG226, pj_ai_wa_eq iG222.1 rfl]
              cases b229 : pj_c1 .lt z227 0 with
              | true =>
                rw [pj_cT]
                have ub229 := pj_u0_ltT b229
                refine pj_X_of (fun r h => pj_R_ifT 182 rfl rfl b229 h) ?_
                refine pj_X_of (fun r h => pj_R_to (G226, 183, [(1, .int y1), (0, .ref 171)], [.int (Int32.ofInt 0)], 0, 0) 183 2 (fun _ => rfl) h) ?_
                have q230 : (pj_fi G226 171 39).toInt = y224.toInt := by rw [show pj_fi G226 171 39 = y224 from by rw [hG226, pj_fi_wa]; exact hy224.symm]
                have q231 : (pj_fi G226 171 17).toInt = y225.toInt := by rw [show pj_fi G226 171 17 = y225 from by rw [hG226, pj_fi_wa]; exact hy225.symm]
                exact pj_X_rt rfl rfl ⟨_, rfl, iG226, kG226, ⟨by omega, by omega⟩, (fun H hH => by subst hH; exact (by omega)), rfl⟩
              | false =>
                rw [pj_cF]
                have ub229 := pj_u0_ltF b229
                refine pj_X_of (fun r h => pj_R_ifF rfl b229 h) ?_
                refine pj_X_of (fun r h => pj_R_to (G226, 183, [(1, .int y1), (0, .ref 171)], [.int (Int32.ofInt 1)], 0, 0) 183 3 (fun _ => rfl) h) ?_
                have q232 : (pj_fi G226 171 39).toInt = y224.toInt := by rw [show pj_fi G226 171 39 = y224 from by rw [hG226, pj_fi_wa]; exact hy224.symm]
                have q233 : (pj_fi G226 171 17).toInt = y225.toInt := by rw [show pj_fi G226 171 17 = y225 from by rw [hG226, pj_fi_wa]; exact hy225.symm]
                exact pj_X_rt rfl rfl ⟨_, rfl, iG226, kG226, ⟨by omega, by omega⟩, (fun H hH => by subst hH; exact (by omega)), rfl⟩
            | false =>
              rw [pj_cF]
              have ub218 := pj_u_neF b218
              refine pj_X_of (fun r h => pj_R_icF rfl b218 h) ?_
              refine pj_X_of (fun r h => pj_R_to (G209, 165, [(1, .int y1), (0, .ref 171)], [.int (Int32.ofInt 3), .ref 171, .int y1, .ref 189], 0, 0) 165 3 (fun _ => rfl) h) ?_
              have q234 : (pj_fi G209 171 39).toInt = y207.toInt := by rw [show pj_fi G209 171 39 = y207 from by rw [hG209, pj_fi_wa]; exact hy207.symm]
              have q235 : (pj_fi G209 171 17).toInt = y208.toInt := by rw [show pj_fi G209 171 17 = y208 from by rw [hG209, pj_fi_wa]; exact hy208.symm]
              refine pj_X_ca (vs := [.ref 171, .int (Int32.ofInt 3)]) rfl (fun _ => rfl) ⟨Nat.le_of_ble_eq_true rfl, Nat.le_of_ble_eq_true rfl, pj_T_rcv iG209 rfl⟩ ⟨rfl, rfl⟩ (pj_Y_up (by decide) (ct_186ex G209 iG209 (Int32.ofInt 3) ⟨by omega, by omega⟩)) ?_
              rintro _ G237 ⟨y236, rfl, iG237, jG237, ry236, ey236, fy236⟩
              replace ey236 := And.intro (ey236 _ rfl).2.2.1 (ey236 _ rfl).2.2.2.1
              rw [← fy236, pj_bd_e]
              have kG237 : pj_kpt kc_229x G0 G237 := pj_kpt_t kG209 (pj_kpt_s jG237 rfl)
              have q238 : (pj_fi G237 171 39).toInt = (pj_fi G209 171 39).toInt := by rw [jG237.1 (171, 39) (by decide)]
              obtain ⟨y239, hy239⟩ : ∃ z : Int32, z = pj_fi G237 171 39 := ⟨_, rfl⟩
              have ey239 : (pj_fi G237 171 39).toInt = y239.toInt := by rw [hy239]
              have ry239 : (0 : Int) ≤ y239.toInt ∧ y239.toInt ≤ 60 := by rw [hy239]; exact iG237.2.1 171 39 (0, 60) rfl
              obtain ⟨y240, hy240⟩ : ∃ z : Int32, z = pj_fi G237 171 17 := ⟨_, rfl⟩
              have ey240 : (pj_fi G237 171 17).toInt = y240.toInt := by rw [hy240]
              have ry240 : (0 : Int) ≤ y240.toInt ∧ y240.toInt ≤ 80 := by rw [hy240]; exact iG237.2.1 171 17 (0, 80) rfl
              show pj_X _ _ G237 168 [(1, .int y1), (0, .ref 171)] [.int y236, .int y1, .ref 189] _
              refine pj_X_of (fun r h => pj_T_is iG237 rfl rfl (by omega) (by omega) h) ?_
              show pj_X _ _ (pj_wa G237 189 y1.toInt.toNat y236) 169 [(1, .int y1), (0, .ref 171)] [] _
              obtain ⟨G241, hG241⟩ : ∃ H, H = pj_wa G237 189 y1.toInt.toNat y236 := ⟨_, rfl⟩
              have iG241 : pj_Inv G241 := by rw [hG241]; exact pj_Inv_wa iG237 rfl (fun q hq => by cases hq) (fun n hn => by cases hn)
              have kG241 : pj_kpt kc_229x G0 G241 := by rw [hG241]; exact pj_kpt_a kG237 rfl
              rw [← hG241]
              rw [pj_nm_e]
              refine pj_X_of (fun r h => pj_R_to (G241, 170, [(1, .int y1), (0, .ref 171)], [.ref 171], 0, 0) 170 2 (fun _ => rfl) h) ?_
              refine pj_X_of (fun r h => pj_T_gr iG241 rfl rfl rfl h) ?_
              refine pj_X_of (fun r h => pj_R_to (G241, 174, [(1, .int y1), (0, .ref 171)], [.int y1, .ref 189], 0, 0) 174 2 (fun _ => rfl) h) ?_
              refine pj_X_of (fun r h => pj_T_il iG241 rfl rfl (by omega) (by omega) h) ?_
              show pj_X _ _ G241 175 [(1, .int y1), (0, .ref 171)] [.int (pj_ai G241 189 y1.toInt.toNat)] _
              obtain ⟨z242, hz242⟩ : ∃ z : Int32, z = pj_ai G241 189 y1.toInt.toNat := ⟨_, rfl⟩
              refine pj_X_eqi hz242.symm ?_
              rw [← hz242, pj_nm_e]
              have ez242 : (pj_ai G241 189 y1.toInt.toNat).toInt = z242.toInt := by rw [hz242]
              have x243 : z242.toInt = y236.toInt := by rw [hz242, show y1.toInt.toNat = y1.toInt.toNat by omega, hG241, pj_ai_wa_eq iG237.1 rfl]
              cases b244 : pj_c1 .lt z242 0 with
              | true =>
                rw [pj_cT]
                have ub244 := pj_u0_ltT b244
                refine pj_X_of (fun r h => pj_R_ifT 182 rfl rfl b244 h) ?_
                refine pj_X_of (fun r h => pj_R_to (G241, 183, [(1, .int y1), (0, .ref 171)], [.int (Int32.ofInt 0)], 0, 0) 183 2 (fun _ => rfl) h) ?_
                have q245 : (pj_fi G241 171 39).toInt = y239.toInt := by rw [show pj_fi G241 171 39 = y239 from by rw [hG241, pj_fi_wa]; exact hy239.symm]
                have q246 : (pj_fi G241 171 17).toInt = y240.toInt := by rw [show pj_fi G241 171 17 = y240 from by rw [hG241, pj_fi_wa]; exact hy240.symm]
                exact pj_X_rt rfl rfl ⟨_, rfl, iG241, kG241, ⟨by omega, by omega⟩, (fun H hH => by subst hH; exact (by omega)), rfl⟩
              | false =>
                rw [pj_cF]
                have ub244 := pj_u0_ltF b244
                refine pj_X_of (fun r h => pj_R_ifF rfl b244 h) ?_
                refine pj_X_of (fun r h => pj_R_to (G241, 183, [(1, .int y1), (0, .ref 171)], [.int (Int32.ofInt 1)], 0, 0) 183 3 (fun _ => rfl) h) ?_
                have q247 : (pj_fi G241 171 39).toInt = y239.toInt := by rw [show pj_fi G241 171 39 = y239 from by rw [hG241, pj_fi_wa]; exact hy239.symm]
                have q248 : (pj_fi G241 171 17).toInt = y240.toInt := by rw [show pj_fi G241 171 17 = y240 from by rw [hG241, pj_fi_wa]; exact hy240.symm]
                exact pj_X_rt rfl rfl ⟨_, rfl, iG241, kG241, ⟨by omega, by omega⟩, (fun H hH => by subst hH; exact (by omega)), rfl⟩
          | false =>
            rw [pj_cF]
            have ub217 := pj_u0_neF b217
            refine pj_X_of (fun r h => pj_R_ifF rfl b217 h) ?_
            refine pj_X_of (fun r h => pj_R_to (G209, 129, [(1, .int y1), (0, .ref 171)], [.int ((Int8.ofInt 45).toInt32), .ref 171], 0, 0) 129 3 (fun _ => rfl) h) ?_
            have q249 : (pj_fi G209 171 39).toInt = y207.toInt := by rw [show pj_fi G209 171 39 = y207 from by rw [hG209, pj_fi_wa]; exact hy207.symm]
            have q250 : (pj_fi G209 171 17).toInt = y208.toInt := by rw [show pj_fi G209 171 17 = y208 from by rw [hG209, pj_fi_wa]; exact hy208.symm]
            refine pj_X_ca (vs := [.ref 171, .int ((Int8.ofInt 45).toInt32)]) rfl (fun _ => rfl) ⟨Nat.le_of_ble_eq_true rfl, Nat.le_of_ble_eq_true rfl, pj_T_rcv iG209 rfl⟩ ⟨rfl, rfl⟩ (pj_Y_up (by decide) (ct_182x G209 iG209 ((Int8.ofInt 45).toInt32) ⟨by omega, by omega⟩)) ?_
            rintro _ G252 ⟨y251, rfl, iG252, jG252, ry251, ey251, fy251⟩
            replace ey251 := (ey251 _ rfl).1
            rw [← fy251, pj_bd_e]
            have kG252 : pj_kpt kc_229x G0 G252 := pj_kpt_t kG209 (pj_kpt_s jG252 rfl)
            have q253 : (pj_fi G252 171 39).toInt = (pj_fi G209 171 39).toInt := by rw [jG252.1 (171, 39) (by decide)]
            obtain ⟨y254, hy254⟩ : ∃ z : Int32, z = pj_fi G252 171 39 := ⟨_, rfl⟩
            have ey254 : (pj_fi G252 171 39).toInt = y254.toInt := by rw [hy254]
            have ry254 : (0 : Int) ≤ y254.toInt ∧ y254.toInt ≤ 60 := by rw [hy254]; exact iG252.2.1 171 39 (0, 60) rfl
            obtain ⟨y255, hy255⟩ : ∃ z : Int32, z = pj_fi G252 171 17 := ⟨_, rfl⟩
            have ey255 : (pj_fi G252 171 17).toInt = y255.toInt := by rw [hy255]
            have ry255 : (0 : Int) ≤ y255.toInt ∧ y255.toInt ≤ 80 := by rw [hy255]; exact iG252.2.1 171 17 (0, 80) rfl
            show pj_X _ _ G252 132 [(1, .int y1), (0, .ref 171)] [.int y251] _
            cases b256 : pj_c1 .eq y251 0 with
            | true =>
              rw [pj_cT]
              have ub256 := pj_u0_eqT b256
              refine pj_X_of (fun r h => pj_R_ifT 144 rfl rfl b256 h) ?_
              refine pj_X_of (fun r h => pj_R_to (G252, 145, [(1, .int y1), (0, .ref 171)], [.ref 171], 0, 0) 145 2 (fun _ => rfl) h) ?_
              refine pj_X_of (fun r h => pj_T_gr iG252 rfl rfl rfl h) ?_
              refine pj_X_of (fun r h => pj_R_to (G252, 151, [(1, .int y1), (0, .ref 171)], [.ref 171, .ref 171, .int y1, .ref 189], 0, 0) 151 4 (fun _ => rfl) h) ?_
              refine pj_X_of (fun r h => pj_T_gr iG252 rfl rfl rfl h) ?_
              refine pj_X_of (fun r h => pj_R_to (G252, 155, [(1, .int y1), (0, .ref 171)], [.int y1, .ref 187, .ref 171, .int y1, .ref 189], 0, 0) 155 2 (fun _ => rfl) h) ?_
              refine pj_X_of (fun r h => pj_T_il iG252 rfl rfl (by omega) (by omega) h) ?_
              show pj_X _ _ G252 156 [(1, .int y1), (0, .ref 171)] [.int (pj_ai G252 187 y1.toInt.toNat), .ref 171, .int y1, .ref 189] _
              obtain ⟨z257, hz257⟩ : ∃ z : Int32, z = pj_ai G252 187 y1.toInt.toNat := ⟨_, rfl⟩
              refine pj_X_eqi hz257.symm ?_
              rw [← hz257, pj_nm_e]
              have ez257 : (pj_ai G252 187 y1.toInt.toNat).toInt = z257.toInt := by rw [hz257]
              refine pj_X_of (fun r h => pj_R_to (G252, 157, [(1, .int y1), (0, .ref 171)], [.int (Int32.ofInt 1), .int z257, .ref 171, .int y1, .ref 189], 0, 0) 157 2 (fun _ => rfl) h) ?_
              cases b258 : pj_c1 .ne z257 (Int32.ofInt 1) with
              | true =>
                rw [pj_cT]
                have ub258 := pj_u_neT b258
                refine pj_X_of (fun r h => pj_R_icT 164 rfl rfl b258 h) ?_
                refine pj_X_of (fun r h => pj_R_to (G252, 165, [(1, .int y1), (0, .ref 171)], [.int (Int32.ofInt 1), .ref 171, .int y1, .ref 189], 0, 0) 165 2 (fun _ => rfl) h) ?_
                have q259 : (pj_fi G252 171 39).toInt = y254.toInt := by rw [show pj_fi G252 171 39 = y254 from hy254.symm]
                have q260 : (pj_fi G252 171 17).toInt = y255.toInt := by rw [show pj_fi G252 171 17 = y255 from hy255.symm]
                refine pj_X_ca (vs := [.ref 171, .int (Int32.ofInt 1)]) rfl (fun _ => rfl) ⟨Nat.le_of_ble_eq_true rfl, Nat.le_of_ble_eq_true rfl, pj_T_rcv iG252 rfl⟩ ⟨rfl, rfl⟩ (pj_Y_up (by decide) (ct_186ex G252 iG252 (Int32.ofInt 1) ⟨by omega, by omega⟩)) ?_
                rintro _ G262 ⟨y261, rfl, iG262, jG262, ry261, ey261, fy261⟩
                replace ey261 := And.intro (ey261 _ rfl).2.2.1 (ey261 _ rfl).2.2.2.1
                rw [← fy261, pj_bd_e]
                have kG262 : pj_kpt kc_229x G0 G262 := pj_kpt_t kG252 (pj_kpt_s jG262 rfl)
                have q263 : (pj_fi G262 171 39).toInt = (pj_fi G252 171 39).toInt := by rw [jG262.1 (171, 39) (by decide)]
                obtain ⟨y264, hy264⟩ : ∃ z : Int32, z = pj_fi G262 171 39 := ⟨_, rfl⟩
                have ey264 : (pj_fi G262 171 39).toInt = y264.toInt := by rw [hy264]
                have ry264 : (0 : Int) ≤ y264.toInt ∧ y264.toInt ≤ 60 := by rw [hy264]; exact iG262.2.1 171 39 (0, 60) rfl
                obtain ⟨y265, hy265⟩ : ∃ z : Int32, z = pj_fi G262 171 17 := ⟨_, rfl⟩
                have ey265 : (pj_fi G262 171 17).toInt = y265.toInt := by rw [hy265]
                have ry265 : (0 : Int) ≤ y265.toInt ∧ y265.toInt ≤ 80 := by rw [hy265]; exact iG262.2.1 171 17 (0, 80) rfl
                show pj_X _ _ G262 168 [(1, .int y1), (0, .ref 171)] [.int y261, .int y1, .ref 189] _
                refine pj_X_of (fun r h => pj_T_is iG262 rfl rfl (by omega) (by omega) h) ?_
                show pj_X _ _ (pj_wa G262 189 y1.toInt.toNat y261) 169 [(1, .int y1), (0, .ref 171)] [] _
                obtain ⟨G266, hG266⟩ : ∃ H, H = pj_wa G262 189 y1.toInt.toNat y261 := ⟨_, rfl⟩
                have iG266 : pj_Inv G266 := by rw [hG266]; exact pj_Inv_wa iG262 rfl (fun q hq => by cases hq) (fun n hn => by cases hn)
                have kG266 : pj_kpt kc_229x G0 G266 := by rw [hG266]; exact pj_kpt_a kG262 rfl
                rw [← hG266]
                rw [pj_nm_e]
                refine pj_X_of (fun r h => pj_R_to (G266, 170, [(1, .int y1), (0, .ref 171)], [.ref 171], 0, 0) 170 2 (fun _ => rfl) h) ?_
                refine pj_X_of (fun r h => pj_T_gr iG266 rfl rfl rfl h) ?_
                refine pj_X_of (fun r h => pj_R_to (G266, 174, [(1, .int y1), (0, .ref 171)], [.int y1, .ref 189], 0, 0) 174 2 (fun _ => rfl) h) ?_
                refine pj_X_of (fun r h => pj_T_il iG266 rfl rfl (by omega) (by omega) h) ?_
                show pj_X _ _ G266 175 [(1, .int y1), (0, .ref 171)] [.int (pj_ai G266 189 y1.toInt.toNat)] _
                obtain ⟨z267, hz267⟩ : ∃ z : Int32, z = pj_ai G266 189 y1.toInt.toNat := ⟨_, rfl⟩
                refine pj_X_eqi hz267.symm ?_
                rw [← hz267, pj_nm_e]
                have ez267 : (pj_ai G266 189 y1.toInt.toNat).toInt = z267.toInt := by rw [hz267]
                have x268 : z267.toInt = y261.toInt := by rw [hz267, show y1.toInt.toNat = y1.toInt.toNat by omega, hG266, pj_ai_wa_eq iG262.1 rfl]
                cases b269 : pj_c1 .lt z267 0 with
                | true =>
                  rw [pj_cT]
                  have ub269 := pj_u0_ltT b269
                  refine pj_X_of (fun r h => pj_R_ifT 182 rfl rfl b269 h) ?_
                  refine pj_X_of (fun r h => pj_R_to (G266, 183, [(1, .int y1), (0, .ref 171)], [.int (Int32.ofInt 0)], 0, 0) 183 2 (fun _ => rfl) h) ?_
                  have q270 : (pj_fi G266 171 39).toInt = y264.toInt := by rw [show pj_fi G266 171 39 = y264 from by rw [hG266, pj_fi_wa]; exact hy264.symm]
                  have q271 : (pj_fi G266 171 17).toInt = y265.toInt := by rw [show pj_fi G266 171 17 = y265 from by rw [hG266, pj_fi_wa]; exact hy265.symm]
                  exact pj_X_rt rfl rfl ⟨_, rfl, iG266, kG266, ⟨by omega, by omega⟩, (fun H hH => by subst hH; exact (by omega)), rfl⟩
                | false =>
                  rw [pj_cF]
                  have ub269 := pj_u0_ltF b269
                  refine pj_X_of (fun r h => pj_R_ifF rfl b269 h) ?_
                  refine pj_X_of (fun r h => pj_R_to (G266, 183, [(1, .int y1), (0, .ref 171)], [.int (Int32.ofInt 1)], 0, 0) 183 3 (fun _ => rfl) h) ?_
                  have q272 : (pj_fi G266 171 39).toInt = y264.toInt := by rw [show pj_fi G266 171 39 = y264 from by rw [hG266, pj_fi_wa]; exact hy264.symm]
                  have q273 : (pj_fi G266 171 17).toInt = y265.toInt := by rw [show pj_fi G266 171 17 = y265 from by rw [hG266, pj_fi_wa]; exact hy265.symm]
                  exact pj_X_rt rfl rfl ⟨_, rfl, iG266, kG266, ⟨by omega, by omega⟩, (fun H hH => by subst hH; exact (by omega)), rfl⟩
              | false =>
                rw [pj_cF]
                have ub258 := pj_u_neF b258
                refine pj_X_of (fun r h => pj_R_icF rfl b258 h) ?_
                refine pj_X_of (fun r h => pj_R_to (G252, 165, [(1, .int y1), (0, .ref 171)], [.int (Int32.ofInt 3), .ref 171, .int y1, .ref 189], 0, 0) 165 3 (fun _ => rfl) h) ?_
                have q274 : (pj_fi G252 171 39).toInt = y254.toInt := by rw [show pj_fi G252 171 39 = y254 from hy254.symm]
                have q275 : (pj_fi G252 171 17).toInt = y255.toInt := by rw [show pj_fi G252 171 17 = y255 from hy255.symm]
                refine pj_X_ca (vs := [.ref 171, .int (Int32.ofInt 3)]) rfl (fun _ => rfl) ⟨Nat.le_of_ble_eq_true rfl, Nat.le_of_ble_eq_true rfl, pj_T_rcv iG252 rfl⟩ ⟨rfl, rfl⟩ (pj_Y_up (by decide) (ct_186ex G252 iG252 (Int32.ofInt 3) ⟨by omega, by omega⟩)) ?_
                rintro _ G277 ⟨y276, rfl, iG277, jG277, ry276, ey276, fy276⟩
                replace ey276 := And.intro (ey276 _ rfl).2.2.1 (ey276 _ rfl).2.2.2.1
                rw [← fy276, pj_bd_e]
                have kG277 : pj_kpt kc_229x G0 G277 := pj_kpt_t kG252 (pj_kpt_s jG277 rfl)
                have q278 : (pj_fi G277 171 39).toInt = (pj_fi G252 171 39).toInt := by rw [jG277.1 (171, 39) (by decide)]
                obtain ⟨y279, hy279⟩ : ∃ z : Int32, z = pj_fi G277 171 39 := ⟨_, rfl⟩
                have ey279 : (pj_fi G277 171 39).toInt = y279.toInt := by rw [hy279]
                have ry279 : (0 : Int) ≤ y279.toInt ∧ y279.toInt ≤ 60 := by rw [hy279]; exact iG277.2.1 171 39 (0, 60) rfl
                obtain ⟨y280, hy280⟩ : ∃ z : Int32, z = pj_fi G277 171 17 := ⟨_, rfl⟩
                have ey280 : (pj_fi G277 171 17).toInt = y280.toInt := by rw [hy280]
                have ry280 : (0 : Int) ≤ y280.toInt ∧ y280.toInt ≤ 80 := by rw [hy280]; exact iG277.2.1 171 17 (0, 80) rfl
                show pj_X _ _ G277 168 [(1, .int y1), (0, .ref 171)] [.int y276, .int y1, .ref 189] _
                refine pj_X_of (fun r h => pj_T_is iG277 rfl rfl (by omega) (by omega) h) ?_
                show pj_X _ _ (pj_wa G277 189 y1.toInt.toNat y276) 169 [(1, .int y1), (0, .ref 171)] [] _
                obtain ⟨G281, hG281⟩ : ∃ H, H = pj_wa G277 189 y1.toInt.toNat y276 := ⟨_, rfl⟩
                have iG281 : pj_Inv G281 := by rw [hG281]; exact pj_Inv_wa iG277 rfl (fun q hq => by cases hq) (fun n hn => by cases hn)
                have kG281 : pj_kpt kc_229x G0 G281 := by rw [hG281]; exact pj_kpt_a kG277 rfl
                rw [← hG281]
                rw [pj_nm_e]
                refine pj_X_of (fun r h => pj_R_to (G281, 170, [(1, .int y1), (0, .ref 171)], [.ref 171], 0, 0) 170 2 (fun _ => rfl) h) ?_
                refine pj_X_of (fun r h => pj_T_gr iG281 rfl rfl rfl h) ?_
                refine pj_X_of (fun r h => pj_R_to (G281, 174, [(1, .int y1), (0, .ref 171)], [.int y1, .ref 189], 0, 0) 174 2 (fun _ => rfl) h) ?_
                refine pj_X_of (fun r h => pj_T_il iG281 rfl rfl (by omega) (by omega) h) ?_
                show pj_X _ _ G281 175 [(1, .int y1), (0, .ref 171)] [.int (pj_ai G281 189 y1.toInt.toNat)] _
                obtain ⟨z282, hz282⟩ : ∃ z : Int32, z = pj_ai G281 189 y1.toInt.toNat := ⟨_, rfl⟩
                refine pj_X_eqi hz282.symm ?_
                rw [← hz282, pj_nm_e]
                have ez282 : (pj_ai G281 189 y1.toInt.toNat).toInt = z282.toInt := by rw [hz282]
                have x283 : z282.toInt = y276.toInt := by rw [hz282, show y1.toInt.toNat = y1.toInt.toNat by omega, hG281, pj_ai_wa_eq iG277.1 rfl]
                cases b284 : pj_c1 .lt z282 0 with
                | true =>
                  rw [pj_cT]
                  have ub284 := pj_u0_ltT b284
                  refine pj_X_of (fun r h => pj_R_ifT 182 rfl rfl b284 h) ?_
                  refine pj_X_of (fun r h => pj_R_to (G281, 183, [(1, .int y1), (0, .ref 171)], [.int (Int32.ofInt 0)], 0, 0) 183 2 (fun _ => rfl) h) ?_
                  have q285 : (pj_fi G281 171 39).toInt = y279.toInt := by rw [show pj_fi G281 171 39 = y279 from by rw [hG281, pj_fi_wa]; exact hy279.symm]
                  have q286 : (pj_fi G281 171 17).toInt = y280.toInt := by rw [show pj_fi G281 171 17 = y280 from by rw [hG281, pj_fi_wa]; exact hy280.symm]
                  exact pj_X_rt rfl rfl ⟨_, rfl, iG281, kG281, ⟨by omega, by omega⟩, (fun H hH => by subst hH; exact (by omega)), rfl⟩
                | false =>
                  rw [pj_cF]
                  have ub284 := pj_u0_ltF b284
                  refine pj_X_of (fun r h => pj_R_ifF rfl b284 h) ?_
                  refine pj_X_of (fun r h => pj_R_to (G281, 183, [(1, .int y1), (0, .ref 171)], [.int (Int32.ofInt 1)], 0, 0) 183 3 (fun _ => rfl) h) ?_
                  have q287 : (pj_fi G281 171 39).toInt = y279.toInt := by rw [show pj_fi G281 171 39 = y279 from by rw [hG281, pj_fi_wa]; exact hy279.symm]
                  have q288 : (pj_fi G281 171 17).toInt = y280.toInt := by rw [show pj_fi G281 171 17 = y280 from by rw [hG281, pj_fi_wa]; exact hy280.symm]
                  exact pj_X_rt rfl rfl ⟨_, rfl, iG281, kG281, ⟨by omega, by omega⟩, (fun H hH => by subst hH; exact (by omega)), rfl⟩
            | false =>
              rw [pj_cF]
              have ub256 := pj_u0_eqF b256
              refine pj_X_of (fun r h => pj_R_ifF rfl b256 h) ?_
              refine pj_X_of (fun r h => pj_R_to (G252, 136, [(1, .int y1), (0, .ref 171)], [.ref 171], 0, 0) 136 2 (fun _ => rfl) h) ?_
              refine pj_X_of (fun r h => pj_T_gr iG252 rfl rfl rfl h) ?_
              refine pj_X_of (fun r h => pj_R_to (G252, 141, [(1, .int y1), (0, .ref 171)], [.int (Int32.ofInt (-1)), .int y1, .ref 189], 0, 0) 141 3 (fun _ => rfl) h) ?_
              refine pj_X_of (fun r h => pj_T_is iG252 rfl rfl (by omega) (by omega) h) ?_
              show pj_X _ _ (pj_wa G252 189 y1.toInt.toNat (Int32.ofInt (-1))) 142 [(1, .int y1), (0, .ref 171)] [] _
              obtain ⟨G289, hG289⟩ : ∃ H, H = pj_wa G252 189 y1.toInt.toNat (Int32.ofInt (-1)) := ⟨_, rfl⟩
              have iG289 : pj_Inv G289 := by rw [hG289]; exact pj_Inv_wa iG252 rfl (fun q hq => by cases hq) (fun n hn => by cases hn)
              have kG289 : pj_kpt kc_229x G0 G289 := by rw [hG289]; exact pj_kpt_a kG252 rfl
              rw [← hG289]
              rw [pj_nm_e]
              refine pj_X_of (fun r h => pj_R_to (G289, 143, [(1, .int y1), (0, .ref 171)], [.int (Int32.ofInt 1)], 0, 0) 143 2 (fun _ => rfl) h) ?_
              have q290 : (pj_fi G289 171 39).toInt = y254.toInt := by rw [show pj_fi G289 171 39 = y254 from by rw [hG289, pj_fi_wa]; exact hy254.symm]
              have q291 : (pj_fi G289 171 17).toInt = y255.toInt := by rw [show pj_fi G289 171 17 = y255 from by rw [hG289, pj_fi_wa]; exact hy255.symm]
              exact pj_X_rt rfl rfl ⟨_, rfl, iG289, kG289, ⟨by omega, by omega⟩, (fun H hH => by subst hH; exact (by omega)), rfl⟩
        | false =>
          rw [pj_cF]
          have ub216 := pj_u_neF b216
          refine pj_X_of (fun r h => pj_R_icF rfl b216 h) ?_
          refine pj_X_of (fun r h => pj_R_to (G209, 103, [(1, .int y1), (0, .ref 171)], [.ref 171], 0, 0) 103 2 (fun _ => rfl) h) ?_
          refine pj_X_of (fun r h => pj_T_gr iG209 rfl rfl rfl h) ?_
          refine pj_X_of (fun r h => pj_R_to (G209, 107, [(1, .int y1), (0, .ref 171)], [.int y1, .ref 188], 0, 0) 107 2 (fun _ => rfl) h) ?_
          refine pj_X_of (fun r h => pj_T_il iG209 rfl rfl (by omega) (by omega) h) ?_
          show pj_X _ _ G209 108 [(1, .int y1), (0, .ref 171)] [.int (pj_ai G209 188 y1.toInt.toNat)] _
          refine pj_X_eqi hz210.symm ?_
          refine pj_X_of (fun r h => pj_R_ifF rfl (pj_b0_ltF (by omega)) h) ?_
          refine pj_X_of (fun r h => pj_R_to (G209, 116, [(1, .int y1), (0, .ref 171)], [.int (Int32.ofInt 1)], 0, 0) 116 3 (fun _ => rfl) h) ?_
          have q292 : (pj_fi G209 171 39).toInt = y207.toInt := by rw [show pj_fi G209 171 39 = y207 from by rw [hG209, pj_fi_wa]; exact hy207.symm]
          have q293 : (pj_fi G209 171 17).toInt = y208.toInt := by rw [show pj_fi G209 171 17 = y208 from by rw [hG209, pj_fi_wa]; exact hy208.symm]
          exact pj_X_rt rfl rfl ⟨_, rfl, iG209, kG209, ⟨by omega, by omega⟩, (fun H hH => by subst hH; exact (by omega)), rfl⟩
  | false =>
    rw [pj_cF]
    have ub15 := pj_u0_geF b15
    refine pj_X_of (fun r h => pj_R_ifF rfl b15 h) ?_
    refine pj_X_of (fun r h => pj_R_to (G12, 38, [(1, .int y1), (0, .ref 171)], [.int (Int32.ofInt 0)], 0, 0) 38 2 (fun _ => rfl) h) ?_
    have q294 : (pj_fi G12 171 39).toInt = z11.toInt := by rw [show pj_fi G12 171 39 = z11 from by rw [hG12]; exact pj_fi_wi iG10.1 (ci := 12) rfl _]
    have q295 : (pj_fi G12 171 17).toInt = y9.toInt := by rw [show pj_fi G12 171 17 = y9 from by rw [hG12, pj_fi_wv_ne _ _ _ _ _ _ (by decide)]; exact (by rw [hG10, pj_fi_wa]; exact hy9.symm)]
    exact pj_X_rt rfl rfl ⟨_, rfl, iG12, kG12, ⟨by omega, by omega⟩, (fun H hH => by subst hH; exact (by omega)), rfl⟩
theorem fr_230x (G0 : pj_G) (hI : pj_Inv G0) (p0_ : (pj_fi G0 171 39).toInt ≤ 59) : pj_Inv (F_230x G0).2 ∧ pj_kpt kc_229x G0 (F_230x G0).2 ∧ ((0 : Int) ≤ (F_230x G0).1.toInt ∧ (F_230x G0).1.toInt ≤ 1) ∧ ((pj_fi (F_230x G0).2 171 39).toInt = (pj_fi G0 171 39).toInt + 1 ∧ (pj_fi G0 171 17).toInt ≤ (pj_fi (F_230x G0).2 171 17).toInt ∧ (1 ≤ (F_230x G0).1.toInt → (pj_fi G0 171 17).toInt + 1 ≤ (pj_fi (F_230x G0).2 171 17).toInt)) := by
  obtain ⟨v, G', -, y, -, i, j, r, x, e⟩ := ct_229x G0 hI p0_
  rw [← e]
  exact ⟨i, j, r, x _ rfl⟩
def kc_230x : pj_KT := ([(171, 32), (171, 33), (171, 34), (171, 35)], [171, 179, 184, 185], [179, 184, 185])
noncomputable def L_231x (G0 : pj_G) (k : Int32) (fu : Nat) : Int32 → pj_G → Int32 × pj_G := Nat.rec (motive := fun _ => Int32 → pj_G → Int32 × pj_G) (fun _ G => (0, G)) (fun _ ih v2 G => pj_nm (pj_ai G 188 k.toInt.toNat) (fun z1 => cond (pj_c1 .ge v2 z1) ((Int32.ofInt 1, G)) (pj_nm (F_225x G) (fun G5 => pj_nm (v2 + Int32.ofInt 1) (fun z6 => ih z6 G5))))) fu
theorem L_231x_s0 (G0 : pj_G) (k : Int32) (fu : Nat) (v2 : Int32) (G : pj_G) : L_231x G0 k (fu + 1) v2 G = pj_nm (pj_ai G 188 k.toInt.toNat) (fun z1 => cond (pj_c1 .ge v2 z1) ((Int32.ofInt 1, G)) (pj_nm (F_225x G) (fun G5 => pj_nm (v2 + Int32.ofInt 1) (fun z6 => L_231x G0 k fu z6 G5)))) := rfl
noncomputable def F_231x (G0 : pj_G) (k : Int32) : Int32 × pj_G := pj_nm (pj_ai G0 187 k.toInt.toNat) (fun z7 => if z7.toInt = 0 then (pj_nm (pj_ai G0 188 k.toInt.toNat) (fun z9 => pj_nm (pj_ai G0 189 k.toInt.toNat) (fun z11 => pj_bd (F_221x G0 z9 z11) (fun y12 G13 => cond (pj_c1 .lt y12 0) ((Int32.ofInt 0, G13)) ((Int32.ofInt 1, G13)))))) else (if z7.toInt = 1 then (pj_nm (pj_ai G0 188 k.toInt.toNat) (fun z16 => pj_nm (pj_ai G0 179 ((Int8.ofInt 30).toInt32).toInt.toNat) (fun z18 => pj_nm (pj_ai G0 189 k.toInt.toNat) (fun z19 => pj_nm (z18 + z19) (fun z20 => pj_bd (F_222x G0 z16 z20) (fun y21 G22 => pj_nm (pj_fi G22 171 32) (fun y23 => (y23, G22)))))))) else (if z7.toInt = 2 then (pj_nm (pj_ai G0 188 k.toInt.toNat) (fun z25 => pj_nm (pj_ai G0 189 k.toInt.toNat) (fun z27 => pj_bd (F_223x G0 z25 z27) (fun y28 G29 => cond (pj_c1 .lt y28 0) ((Int32.ofInt 0, G29)) ((Int32.ofInt 1, G29)))))) else (L_231x G0 k 2147483648 (Int32.ofInt 0) G0))))
theorem F_231x_e (G0 : pj_G) (k : Int32) : F_231x G0 k = pj_nm (pj_ai G0 187 k.toInt.toNat) (fun z7 => if z7.toInt = 0 then (pj_nm (pj_ai G0 188 k.toInt.toNat) (fun z9 => pj_nm (pj_ai G0 189 k.toInt.toNat) (fun z11 => pj_bd (F_221x G0 z9 z11) (fun y12 G13 => cond (pj_c1 .lt y12 0) ((Int32.ofInt 0, G13)) ((Int32.ofInt 1, G13)))))) else (if z7.toInt = 1 then (pj_nm (pj_ai G0 188 k.toInt.toNat) (fun z16 => pj_nm (pj_ai G0 179 ((Int8.ofInt 30).toInt32).toInt.toNat) (fun z18 => pj_nm (pj_ai G0 189 k.toInt.toNat) (fun z19 => pj_nm (z18 + z19) (fun z20 => pj_bd (F_222x G0 z16 z20) (fun y21 G22 => pj_nm (pj_fi G22 171 32) (fun y23 => (y23, G22)))))))) else (if z7.toInt = 2 then (pj_nm (pj_ai G0 188 k.toInt.toNat) (fun z25 => pj_nm (pj_ai G0 189 k.toInt.toNat) (fun z27 => pj_bd (F_223x G0 z25 z27) (fun y28 G29 => cond (pj_c1 .lt y28 0) ((Int32.ofInt 0, G29)) ((Int32.ofInt 1, G29)))))) else (L_231x G0 k 2147483648 (Int32.ofInt 0) G0)))) := rfl
theorem lp_ct_230x (G0 : pj_G) (hI0 : pj_Inv G0) (k : Int32) (rk : (0 : Int) ≤ k.toInt ∧ k.toInt ≤ 59) (p0_ : pj_RI G0) : ∀ mn : Nat, (∀ (G : pj_G) (hI : pj_Inv G) (hK : pj_kpt kc_230x G0 G) (v2 : Int32), ((0 : Int) ≤ v2.toInt ∧ v2.toInt ≤ 2147483647) → 2147483647 - v2.toInt < (mn : Int) → pj_X 6 pj_m230 G 114 [(0, .ref 171), (1, .int k), (2, .int v2)] [] (fun v' G' => ∃ y : Int32, v' = some (.int y) ∧ pj_Inv G' ∧ pj_kpt kc_230x G0 G' ∧ ((0 : Int) ≤ y.toInt ∧ y.toInt ≤ 1) ∧ ((y, G') = L_231x G0 k mn v2 G))) := by
  have c0_ : ((Int8.ofInt 30).toInt32).toInt = 30 := by decide
  have c1_ : (Int32.ofInt 0).toInt = 0 := by decide
  have c2_ : (Int32.ofInt 1).toInt = 1 := by decide
  intro mn
  induction mn with
  | zero =>
    intro G hI hK v2 rv2 hm
    exfalso
    omega
  | succ mn ih =>
    intro G hI hK v2 rv2 hm
    rw [L_231x_s0]
    refine pj_X_of (fun r h => pj_R_to (G, 116, [(0, .ref 171), (1, .int k), (2, .int v2)], [.ref 171, .int v2], 0, 0) 116 3 (fun _ => rfl) h) ?_
    refine pj_X_of (fun r h => pj_T_gr hI rfl rfl rfl h) ?_
    refine pj_X_of (fun r h => pj_R_to (G, 120, [(0, .ref 171), (1, .int k), (2, .int v2)], [.int k, .ref 188, .int v2], 0, 0) 120 2 (fun _ => rfl) h) ?_
    refine pj_X_of (fun r h => pj_T_il hI rfl rfl (by omega) (by omega) h) ?_
    show pj_X _ _ G 121 [(0, .ref 171), (1, .int k), (2, .int v2)] [.int (pj_ai G 188 k.toInt.toNat), .int v2] _
    obtain ⟨z1, hz1⟩ : ∃ z : Int32, z = pj_ai G 188 k.toInt.toNat := ⟨_, rfl⟩
    refine pj_X_eqi hz1.symm ?_
    rw [← hz1, pj_nm_e]
    have ez1 : (pj_ai G 188 k.toInt.toNat).toInt = z1.toInt := by rw [hz1]
    have i2 := pj_i32 z1
    cases b3 : pj_c1 .ge v2 z1 with
    | true =>
      rw [pj_cT]
      have ub3 := pj_u_geT b3
      refine pj_X_of (fun r h => pj_R_icT 134 rfl rfl b3 h) ?_
      refine pj_X_of (fun r h => pj_R_to (G, 135, [(0, .ref 171), (1, .int k), (2, .int v2)], [.int (Int32.ofInt 1)], 0, 0) 135 2 (fun _ => rfl) h) ?_
      exact pj_X_rt rfl rfl ⟨_, rfl, hI, hK, ⟨by omega, by omega⟩, rfl⟩
    | false =>
      rw [pj_cF]
      have ub3 := pj_u_geF b3
      refine pj_X_of (fun r h => pj_R_icF rfl b3 h) ?_
      refine pj_X_of (fun r h => pj_R_to (G, 125, [(0, .ref 171), (1, .int k), (2, .int v2)], [.ref 171], 0, 0) 125 2 (fun _ => rfl) h) ?_
      refine pj_X_ca (vs := [.ref 171]) rfl (fun _ => rfl) ⟨Nat.le_of_ble_eq_true rfl, Nat.le_of_ble_eq_true rfl, pj_T_rcv hI rfl⟩ ⟨rfl, rfl⟩ (pj_Y_up (by decide) (ct_224x G hI)) ?_
      rintro _ G5 ⟨rfl, iG5, jG5, fy4⟩
      rw [← fy4, pj_nm_e]
      have kG5 : pj_kpt kc_230x G0 G5 := pj_kpt_t hK (pj_kpt_s jG5 rfl)
      show pj_X _ _ G5 128 [(0, .ref 171), (1, .int k), (2, .int v2)] [] _
      refine pj_X_of (fun r h => pj_R_to (G5, 131, [(2, .int (v2 + Int32.ofInt 1)), (0, .ref 171), (1, .int k)], [], 0, 0) 131 2 (fun _ => rfl) h) ?_
      obtain ⟨z6, hz6⟩ : ∃ z : Int32, z = v2 + Int32.ofInt 1 := ⟨_, rfl⟩
      rw [← hz6]
      rw [pj_nm_e]
      have fz6_0 : z6.toInt = v2.toInt + (Int32.ofInt 1).toInt := by rw [hz6]; exact pj_addI (by have := pj_i32 v2; have := pj_i32 (Int32.ofInt 1); omega) (by have := pj_i32 v2; have := pj_i32 (Int32.ofInt 1); omega)
      refine pj_X_of (fun r h => pj_R_to (G5, 114, [(2, .int z6), (0, .ref 171), (1, .int k)], [], 0, 0) 114 2 (fun _ => rfl) h) ?_
      exact pj_X_sub [(0, .ref 171), (1, .int k), (2, .int z6)] (show List.Nodup [0, 1, 2] by decide) ⟨rfl, rfl, rfl, trivial⟩ (ih G5 iG5 kG5 z6 ⟨by omega, by omega⟩ (by omega))
theorem ct_230x (G0 : pj_G) (hI : pj_Inv G0) (k : Int32) (rk : (0 : Int) ≤ k.toInt ∧ k.toInt ≤ 59) (p0_ : pj_RI G0) : pj_Y 7 230 [.ref 171, .int k] G0 (fun v' G' => ∃ y : Int32, v' = some (.int y) ∧ pj_Inv G' ∧ pj_kpt kc_230x G0 G' ∧ ((0 : Int) ≤ y.toInt ∧ y.toInt ≤ 1) ∧ ((y, G') = F_231x G0 k)) := by
  have c0_ : ((Int8.ofInt 30).toInt32).toInt = 30 := by decide
  have c1_ : (Int32.ofInt 0).toInt = 0 := by decide
  have c2_ : (Int32.ofInt 1).toInt = 1 := by decide
  refine pj_Y_X (M := pj_m230) rfl rfl (Nat.le_of_ble_eq_true rfl) ?_
  have hK : pj_kpt kc_230x G0 G0 := pj_kpt_r _ _
  show pj_X _ _ G0 0 [(0, .ref 171), (1, .int k)] [] _
  rw [F_231x_e]
  refine pj_X_of (fun r h => pj_R_to (G0, 1, [(0, .ref 171), (1, .int k)], [.ref 171], 0, 0) 1 2 (fun _ => rfl) h) ?_
  refine pj_X_of (fun r h => pj_T_gr hI rfl rfl rfl h) ?_
  refine pj_X_of (fun r h => pj_R_to (G0, 5, [(0, .ref 171), (1, .int k)], [.int k, .ref 187], 0, 0) 5 2 (fun _ => rfl) h) ?_
  refine pj_X_of (fun r h => pj_T_il hI rfl rfl (by omega) (by omega) h) ?_
  show pj_X _ _ G0 6 [(0, .ref 171), (1, .int k)] [.int (pj_ai G0 187 k.toInt.toNat)] _
  obtain ⟨z7, hz7⟩ : ∃ z : Int32, z = pj_ai G0 187 k.toInt.toNat := ⟨_, rfl⟩
  refine pj_X_eqi hz7.symm ?_
  rw [← hz7, pj_nm_e]
  have ez7 : (pj_ai G0 187 k.toInt.toNat).toInt = z7.toInt := by rw [hz7]
  by_cases t8 : z7.toInt = 0
  · refine pj_X_of (fun r h => pj_R_tw 32 rfl (n := 0) t8 rfl h) ?_
    rw [if_pos t8]
    refine pj_X_of (fun r h => pj_R_to (G0, 34, [(0, .ref 171), (1, .int k)], [.ref 171, .ref 171], 0, 0) 34 3 (fun _ => rfl) h) ?_
    refine pj_X_of (fun r h => pj_T_gr hI rfl rfl rfl h) ?_
    refine pj_X_of (fun r h => pj_R_to (G0, 38, [(0, .ref 171), (1, .int k)], [.int k, .ref 188, .ref 171], 0, 0) 38 2 (fun _ => rfl) h) ?_
    refine pj_X_of (fun r h => pj_T_il hI rfl rfl (by omega) (by omega) h) ?_
    show pj_X _ _ G0 39 [(0, .ref 171), (1, .int k)] [.int (pj_ai G0 188 k.toInt.toNat), .ref 171] _
    obtain ⟨z9, hz9⟩ : ∃ z : Int32, z = pj_ai G0 188 k.toInt.toNat := ⟨_, rfl⟩
    refine pj_X_eqi hz9.symm ?_
    rw [← hz9, pj_nm_e]
    have ez9 : (pj_ai G0 188 k.toInt.toNat).toInt = z9.toInt := by rw [hz9]
    have i10 := pj_i32 z9
    refine pj_X_of (fun r h => pj_R_to (G0, 40, [(0, .ref 171), (1, .int k)], [.ref 171, .int z9, .ref 171], 0, 0) 40 2 (fun _ => rfl) h) ?_
    refine pj_X_of (fun r h => pj_T_gr hI rfl rfl rfl h) ?_
    refine pj_X_of (fun r h => pj_R_to (G0, 44, [(0, .ref 171), (1, .int k)], [.int k, .ref 189, .int z9, .ref 171], 0, 0) 44 2 (fun _ => rfl) h) ?_
    refine pj_X_of (fun r h => pj_T_il hI rfl rfl (by omega) (by omega) h) ?_
    show pj_X _ _ G0 45 [(0, .ref 171), (1, .int k)] [.int (pj_ai G0 189 k.toInt.toNat), .int z9, .ref 171] _
    obtain ⟨z11, hz11⟩ : ∃ z : Int32, z = pj_ai G0 189 k.toInt.toNat := ⟨_, rfl⟩
    refine pj_X_eqi hz11.symm ?_
    rw [← hz11, pj_nm_e]
    have ez11 : (pj_ai G0 189 k.toInt.toNat).toInt = z11.toInt := by rw [hz11]
    refine pj_X_ca (vs := [.ref 171, .int z9, .int z11]) rfl (fun _ => rfl) ⟨Nat.le_of_ble_eq_true rfl, Nat.le_of_ble_eq_true rfl, pj_T_rcv hI rfl⟩ ⟨rfl, rfl⟩ (pj_Y_up (by decide) (ct_220x G0 hI z9 z11 (pj_RI_k p0_ hK rfl))) ?_
    rintro _ G13 ⟨y12, rfl, iG13, jG13, ry12, fy12⟩
    rw [← fy12, pj_bd_e]
    have kG13 : pj_kpt kc_230x G0 G13 := pj_kpt_t hK (pj_kpt_s jG13 rfl)
    show pj_X _ _ G13 48 [(0, .ref 171), (1, .int k)] [.int y12] _
    cases b14 : pj_c1 .lt y12 0 with
    | true =>
      rw [pj_cT]
      have ub14 := pj_u0_ltT b14
      refine pj_X_of (fun r h => pj_R_ifT 55 rfl rfl b14 h) ?_
      refine pj_X_of (fun r h => pj_R_to (G13, 56, [(0, .ref 171), (1, .int k)], [.int (Int32.ofInt 0)], 0, 0) 56 2 (fun _ => rfl) h) ?_
      exact pj_X_rt rfl rfl ⟨_, rfl, iG13, kG13, ⟨by omega, by omega⟩, rfl⟩
    | false =>
      rw [pj_cF]
      have ub14 := pj_u0_ltF b14
      refine pj_X_of (fun r h => pj_R_ifF rfl b14 h) ?_
      refine pj_X_of (fun r h => pj_R_to (G13, 56, [(0, .ref 171), (1, .int k)], [.int (Int32.ofInt 1)], 0, 0) 56 3 (fun _ => rfl) h) ?_
      exact pj_X_rt rfl rfl ⟨_, rfl, iG13, kG13, ⟨by omega, by omega⟩, rfl⟩
  rw [if_neg t8]
  by_cases t15 : z7.toInt = 1
  · refine pj_X_of (fun r h => pj_R_tw 57 rfl (n := 1) t15 rfl h) ?_
    rw [if_pos t15]
    refine pj_X_of (fun r h => pj_R_to (G0, 59, [(0, .ref 171), (1, .int k)], [.ref 171, .ref 171], 0, 0) 59 3 (fun _ => rfl) h) ?_
    refine pj_X_of (fun r h => pj_T_gr hI rfl rfl rfl h) ?_
    refine pj_X_of (fun r h => pj_R_to (G0, 63, [(0, .ref 171), (1, .int k)], [.int k, .ref 188, .ref 171], 0, 0) 63 2 (fun _ => rfl) h) ?_
    refine pj_X_of (fun r h => pj_T_il hI rfl rfl (by omega) (by omega) h) ?_
    show pj_X _ _ G0 64 [(0, .ref 171), (1, .int k)] [.int (pj_ai G0 188 k.toInt.toNat), .ref 171] _
    obtain ⟨z16, hz16⟩ : ∃ z : Int32, z = pj_ai G0 188 k.toInt.toNat := ⟨_, rfl⟩
    refine pj_X_eqi hz16.symm ?_
    rw [← hz16, pj_nm_e]
    have ez16 : (pj_ai G0 188 k.toInt.toNat).toInt = z16.toInt := by rw [hz16]
    have i17 := pj_i32 z16
    refine pj_X_of (fun r h => pj_R_to (G0, 65, [(0, .ref 171), (1, .int k)], [.ref 171, .int z16, .ref 171], 0, 0) 65 2 (fun _ => rfl) h) ?_
    refine pj_X_of (fun r h => pj_T_gr hI rfl rfl rfl h) ?_
    refine pj_X_of (fun r h => pj_R_to (G0, 70, [(0, .ref 171), (1, .int k)], [.int ((Int8.ofInt 30).toInt32), .ref 179, .int z16, .ref 171], 0, 0) 70 2 (fun _ => rfl) h) ?_
    refine pj_X_of (fun r h => pj_T_il hI rfl rfl (by omega) (by omega) h) ?_
    show pj_X _ _ G0 71 [(0, .ref 171), (1, .int k)] [.int (pj_ai G0 179 ((Int8.ofInt 30).toInt32).toInt.toNat), .int z16, .ref 171] _
    obtain ⟨z18, hz18⟩ : ∃ z : Int32, z = pj_ai G0 179 ((Int8.ofInt 30).toInt32).toInt.toNat := ⟨_, rfl⟩
    refine pj_X_eqi hz18.symm ?_
    rw [← hz18, pj_nm_e]
    have ez18 : (pj_ai G0 179 ((Int8.ofInt 30).toInt32).toInt.toNat).toInt = z18.toInt := by rw [hz18]
    refine pj_X_of (fun r h => pj_R_to (G0, 72, [(0, .ref 171), (1, .int k)], [.ref 171, .int z18, .int z16, .ref 171], 0, 0) 72 2 (fun _ => rfl) h) ?_
    refine pj_X_of (fun r h => pj_T_gr hI rfl rfl rfl h) ?_
    refine pj_X_of (fun r h => pj_R_to (G0, 76, [(0, .ref 171), (1, .int k)], [.int k, .ref 189, .int z18, .int z16, .ref 171], 0, 0) 76 2 (fun _ => rfl) h) ?_
    refine pj_X_of (fun r h => pj_T_il hI rfl rfl (by omega) (by omega) h) ?_
    show pj_X _ _ G0 77 [(0, .ref 171), (1, .int k)] [.int (pj_ai G0 189 k.toInt.toNat), .int z18, .int z16, .ref 171] _
    obtain ⟨z19, hz19⟩ : ∃ z : Int32, z = pj_ai G0 189 k.toInt.toNat := ⟨_, rfl⟩
    refine pj_X_eqi hz19.symm ?_
    rw [← hz19, pj_nm_e]
    have ez19 : (pj_ai G0 189 k.toInt.toNat).toInt = z19.toInt := by rw [hz19]
    refine pj_X_of (fun r h => pj_R_to (G0, 78, [(0, .ref 171), (1, .int k)], [.int (z18 + z19), .int z16, .ref 171], 0, 0) 78 2 (fun _ => rfl) h) ?_
    obtain ⟨z20, hz20⟩ : ∃ z : Int32, z = z18 + z19 := ⟨_, rfl⟩
    refine pj_X_eqi hz20.symm ?_
    rw [← hz20, pj_nm_e]
    refine pj_X_ca (vs := [.ref 171, .int z16, .int z20]) rfl (fun _ => rfl) ⟨Nat.le_of_ble_eq_true rfl, Nat.le_of_ble_eq_true rfl, pj_T_rcv hI rfl⟩ ⟨rfl, rfl⟩ (pj_Y_up (by decide) (ct_221x G0 hI z16 z20)) ?_
    rintro _ G22 ⟨y21, rfl, iG22, jG22, ry21, fy21⟩
    rw [← fy21, pj_bd_e]
    have kG22 : pj_kpt kc_230x G0 G22 := pj_kpt_t hK (pj_kpt_s jG22 rfl)
    show pj_X _ _ G22 81 [(0, .ref 171), (1, .int k)] [.int y21] _
    refine pj_X_of (fun r h => pj_R_to (G22, 83, [(0, .ref 171), (1, .int k)], [.ref 171], 0, 0) 83 3 (fun _ => rfl) h) ?_
    refine pj_X_of (fun r h => pj_T_gi iG22 rfl rfl h) ?_
    show pj_X _ _ G22 86 [(0, .ref 171), (1, .int k)] [.int (pj_fi G22 171 32)] _
    obtain ⟨y23, hy23⟩ : ∃ z : Int32, z = pj_fi G22 171 32 := ⟨_, rfl⟩
    refine pj_X_eqi hy23.symm ?_
    rw [← hy23, pj_nm_e]
    have ey23 : (pj_fi G22 171 32).toInt = y23.toInt := by rw [hy23]
    have ry23 : (0 : Int) ≤ y23.toInt ∧ y23.toInt ≤ 1 := by rw [hy23]; exact iG22.2.1 171 32 (0, 1) rfl
    exact pj_X_rt (v := some (.int y23)) rfl (pj_rtb ⟨by omega, by omega⟩) ⟨_, rfl, iG22, kG22, ⟨by omega, by omega⟩, rfl⟩
  rw [if_neg t15]
  by_cases t24 : z7.toInt = 2
  · refine pj_X_of (fun r h => pj_R_tw 87 rfl (n := 2) t24 rfl h) ?_
    rw [if_pos t24]
    refine pj_X_of (fun r h => pj_R_to (G0, 89, [(0, .ref 171), (1, .int k)], [.ref 171, .ref 171], 0, 0) 89 3 (fun _ => rfl) h) ?_
    refine pj_X_of (fun r h => pj_T_gr hI rfl rfl rfl h) ?_
    refine pj_X_of (fun r h => pj_R_to (G0, 93, [(0, .ref 171), (1, .int k)], [.int k, .ref 188, .ref 171], 0, 0) 93 2 (fun _ => rfl) h) ?_
    refine pj_X_of (fun r h => pj_T_il hI rfl rfl (by omega) (by omega) h) ?_
    show pj_X _ _ G0 94 [(0, .ref 171), (1, .int k)] [.int (pj_ai G0 188 k.toInt.toNat), .ref 171] _
    obtain ⟨z25, hz25⟩ : ∃ z : Int32, z = pj_ai G0 188 k.toInt.toNat := ⟨_, rfl⟩
    refine pj_X_eqi hz25.symm ?_
    rw [← hz25, pj_nm_e]
    have ez25 : (pj_ai G0 188 k.toInt.toNat).toInt = z25.toInt := by rw [hz25]
    have i26 := pj_i32 z25
    refine pj_X_of (fun r h => pj_R_to (G0, 95, [(0, .ref 171), (1, .int k)], [.ref 171, .int z25, .ref 171], 0, 0) 95 2 (fun _ => rfl) h) ?_
    refine pj_X_of (fun r h => pj_T_gr hI rfl rfl rfl h) ?_
    refine pj_X_of (fun r h => pj_R_to (G0, 99, [(0, .ref 171), (1, .int k)], [.int k, .ref 189, .int z25, .ref 171], 0, 0) 99 2 (fun _ => rfl) h) ?_
    refine pj_X_of (fun r h => pj_T_il hI rfl rfl (by omega) (by omega) h) ?_
    show pj_X _ _ G0 100 [(0, .ref 171), (1, .int k)] [.int (pj_ai G0 189 k.toInt.toNat), .int z25, .ref 171] _
    obtain ⟨z27, hz27⟩ : ∃ z : Int32, z = pj_ai G0 189 k.toInt.toNat := ⟨_, rfl⟩
    refine pj_X_eqi hz27.symm ?_
    rw [← hz27, pj_nm_e]
    have ez27 : (pj_ai G0 189 k.toInt.toNat).toInt = z27.toInt := by rw [hz27]
    refine pj_X_ca (vs := [.ref 171, .int z25, .int z27]) rfl (fun _ => rfl) ⟨Nat.le_of_ble_eq_true rfl, Nat.le_of_ble_eq_true rfl, pj_T_rcv hI rfl⟩ ⟨rfl, rfl⟩ (pj_Y_up (by decide) (ct_222x G0 hI z25 z27)) ?_
    rintro _ G29 ⟨y28, rfl, iG29, jG29, ry28, fy28⟩
    rw [← fy28, pj_bd_e]
    have kG29 : pj_kpt kc_230x G0 G29 := pj_kpt_t hK (pj_kpt_s jG29 rfl)
    show pj_X _ _ G29 103 [(0, .ref 171), (1, .int k)] [.int y28] _
    cases b30 : pj_c1 .lt y28 0 with
    | true =>
      rw [pj_cT]
      have ub30 := pj_u0_ltT b30
      refine pj_X_of (fun r h => pj_R_ifT 110 rfl rfl b30 h) ?_
      refine pj_X_of (fun r h => pj_R_to (G29, 111, [(0, .ref 171), (1, .int k)], [.int (Int32.ofInt 0)], 0, 0) 111 2 (fun _ => rfl) h) ?_
      exact pj_X_rt rfl rfl ⟨_, rfl, iG29, kG29, ⟨by omega, by omega⟩, rfl⟩
    | false =>
      rw [pj_cF]
      have ub30 := pj_u0_ltF b30
      refine pj_X_of (fun r h => pj_R_ifF rfl b30 h) ?_
      refine pj_X_of (fun r h => pj_R_to (G29, 111, [(0, .ref 171), (1, .int k)], [.int (Int32.ofInt 1)], 0, 0) 111 3 (fun _ => rfl) h) ?_
      exact pj_X_rt rfl rfl ⟨_, rfl, iG29, kG29, ⟨by omega, by omega⟩, rfl⟩
  rw [if_neg t24]
  refine pj_X_of (fun r h => pj_R_td 112 rfl (by omega) rfl h) ?_
  refine pj_X_of (fun r h => pj_R_to (G0, 114, [(2, .int (Int32.ofInt 0)), (0, .ref 171), (1, .int k)], [], 0, 0) 114 3 (fun _ => rfl) h) ?_
  exact pj_X_sub [(0, .ref 171), (1, .int k), (2, .int (Int32.ofInt 0))] (show List.Nodup [0, 1, 2] by decide) ⟨rfl, rfl, rfl, trivial⟩ ((lp_ct_230x G0 hI k rk p0_ 2147483648) G0 hI hK (Int32.ofInt 0) ⟨by omega, by omega⟩ (by omega))
theorem fr_231x (G0 : pj_G) (hI : pj_Inv G0) (k : Int32) (rk : (0 : Int) ≤ k.toInt ∧ k.toInt ≤ 59) (p0_ : pj_RI G0) : pj_Inv (F_231x G0 k).2 ∧ pj_kpt kc_230x G0 (F_231x G0 k).2 ∧ ((0 : Int) ≤ (F_231x G0 k).1.toInt ∧ (F_231x G0 k).1.toInt ≤ 1) := by
  obtain ⟨v, G', -, y, -, i, j, r, e⟩ := ct_230x G0 hI k rk p0_
  rw [← e]
  exact ⟨i, j, r⟩
def kc_231tx : pj_KT := ([(171, 0), (171, 1), (171, 16), (171, 17), (171, 18), (171, 19), (171, 30), (171, 32), (171, 33), (171, 34), (171, 35), (171, 39)], [171, 172, 179, 184, 185, 186, 187, 188, 189], [179, 184, 185, 186, 187, 188, 189])
noncomputable def L_232tx (G0 : pj_G) (fu : Nat) : Nat → Int32 → Int32 → Int32 → Int32 → Int32 → pj_G → Int32 × pj_G := Nat.rec (motive := fun _ => Nat → Int32 → Int32 → Int32 → Int32 → Int32 → pj_G → Int32 × pj_G) (fun _ _ _ _ _ _ G => (0, G)) (fun _ ih lab v1 v2 v3 v4 v5 G => cond (Nat.beq lab 0) (cond (pj_c1 .eq v3 0) (pj_nm (F_189x G v1 ((Int8.ofInt 60).toInt32) v2) (fun y14 => cond (pj_c1 .ge y14 0) (pj_nm (F_215x G) (fun G23 => pj_nm (F_224x G23) (fun G43 => ih 1 v1 v2 v3 y14 (Int32.ofInt 0) G43))) ((y14, G)))) (pj_bd (F_230x G) (fun y74 G75 => cond (pj_c1 .eq y74 0) (ih 0 v1 y74 (Int32.ofInt 0) 0 0 G75) (pj_bd (F_183x G75 ((Int8.ofInt 59).toInt32)) (fun y99 G100 => cond (pj_c1 .eq y99 0) (ih 0 v1 y74 (Int32.ofInt 0) 0 0 G100) (ih 0 v1 y74 (Int32.ofInt 1) 0 0 G100)))))) (pj_nm (pj_fi G 171 39) (fun y127 => cond (pj_c1 .ge v5 y127) (pj_nm (pj_wv G 171 1 (.int (Int32.ofInt 0))) (fun G132 => pj_nm (F_173x G132 (Int32.ofInt 0)) (fun y139 => pj_nm (F_175fx G132 y139.toInt64) (fun G148 => pj_nm (pj_fi G148 171 35) (fun y160 => pj_nm (F_175fx G148 y160.toInt64) (fun G169 => cond (pj_c1 .le v5 0) ((Int32.ofInt 0, G169)) (pj_bd (F_216x G169 v5) (fun y194 G195 => (y194, G195))))))))) (pj_bd (F_231x G v5) (fun y219 G220 => cond (pj_c1 .eq y219 0) (pj_nm (pj_wv G220 171 1 (.int (Int32.ofInt 0))) (fun G234 => pj_nm (pj_fi G220 171 39) (fun y229 => cond (pj_c1 .ge v5 y229) (pj_nm (F_173x G234 (Int32.ofInt 0)) (fun y242 => pj_nm (F_175fx G234 y242.toInt64) (fun G251 => pj_nm (pj_fi G251 171 35) (fun y263 => pj_nm (F_175fx G251 y263.toInt64) (fun G272 => cond (pj_c1 .le v5 0) ((Int32.ofInt 0, G272)) (pj_bd (F_216x G272 v5) (fun y297 G298 => (y297, G298)))))))) (pj_nm (F_173x G234 (Int32.ofInt 1)) (fun y322 => pj_nm (F_175fx G234 y322.toInt64) (fun G331 => pj_nm (pj_fi G331 171 35) (fun y343 => pj_nm (F_175fx G331 y343.toInt64) (fun G352 => cond (pj_c1 .le v5 0) ((Int32.ofInt 0, G352)) (pj_bd (F_216x G352 v5) (fun y377 G378 => (y377, G378))))))))))) (pj_nm (v5 + Int32.ofInt 1) (fun z396 => ih 1 v1 v2 v3 v4 z396 G220))))))) fu
theorem L_232tx_s0 (G0 : pj_G) (fu : Nat) (v1 : Int32) (v2 : Int32) (v3 : Int32) (G : pj_G) : L_232tx G0 (fu + 1) 0 v1 v2 v3 0 0 G = cond (pj_c1 .eq v3 0) (pj_nm (F_189x G v1 ((Int8.ofInt 60).toInt32) v2) (fun y14 => cond (pj_c1 .ge y14 0) (pj_nm (F_215x G) (fun G23 => pj_nm (F_224x G23) (fun G43 => L_232tx G0 fu 1 v1 v2 v3 y14 (Int32.ofInt 0) G43))) ((y14, G)))) (pj_bd (F_230x G) (fun y74 G75 => cond (pj_c1 .eq y74 0) (L_232tx G0 fu 0 v1 y74 (Int32.ofInt 0) 0 0 G75) (pj_bd (F_183x G75 ((Int8.ofInt 59).toInt32)) (fun y99 G100 => cond (pj_c1 .eq y99 0) (L_232tx G0 fu 0 v1 y74 (Int32.ofInt 0) 0 0 G100) (L_232tx G0 fu 0 v1 y74 (Int32.ofInt 1) 0 0 G100))))) := rfl
theorem L_232tx_s1 (G0 : pj_G) (fu : Nat) (v1 : Int32) (v2 : Int32) (v3 : Int32) (v4 : Int32) (v5 : Int32) (G : pj_G) : L_232tx G0 (fu + 1) 1 v1 v2 v3 v4 v5 G = pj_nm (pj_fi G 171 39) (fun y127 => cond (pj_c1 .ge v5 y127) (pj_nm (pj_wv G 171 1 (.int (Int32.ofInt 0))) (fun G132 => pj_nm (F_173x G132 (Int32.ofInt 0)) (fun y139 => pj_nm (F_175fx G132 y139.toInt64) (fun G148 => pj_nm (pj_fi G148 171 35) (fun y160 => pj_nm (F_175fx G148 y160.toInt64) (fun G169 => cond (pj_c1 .le v5 0) ((Int32.ofInt 0, G169)) (pj_bd (F_216x G169 v5) (fun y194 G195 => (y194, G195))))))))) (pj_bd (F_231x G v5) (fun y219 G220 => cond (pj_c1 .eq y219 0) (pj_nm (pj_wv G220 171 1 (.int (Int32.ofInt 0))) (fun G234 => pj_nm (pj_fi G220 171 39) (fun y229 => cond (pj_c1 .ge v5 y229) (pj_nm (F_173x G234 (Int32.ofInt 0)) (fun y242 => pj_nm (F_175fx G234 y242.toInt64) (fun G251 => pj_nm (pj_fi G251 171 35) (fun y263 => pj_nm (F_175fx G251 y263.toInt64) (fun G272 => cond (pj_c1 .le v5 0) ((Int32.ofInt 0, G272)) (pj_bd (F_216x G272 v5) (fun y297 G298 => (y297, G298)))))))) (pj_nm (F_173x G234 (Int32.ofInt 1)) (fun y322 => pj_nm (F_175fx G234 y322.toInt64) (fun G331 => pj_nm (pj_fi G331 171 35) (fun y343 => pj_nm (F_175fx G331 y343.toInt64) (fun G352 => cond (pj_c1 .le v5 0) ((Int32.ofInt 0, G352)) (pj_bd (F_216x G352 v5) (fun y377 G378 => (y377, G378))))))))))) (pj_nm (v5 + Int32.ofInt 1) (fun z396 => L_232tx G0 fu 1 v1 v2 v3 v4 z396 G220))))) := rfl
noncomputable def F_232tx (G0 : pj_G) : Int32 × pj_G := pj_nm (pj_wv G0 171 0 (.int (Int32.ofInt 0))) (fun G409 => pj_bd (F_182etx G409 ((Int8.ofInt 60).toInt32)) (fun y416 G417 => pj_nm (pj_wv G417 171 39 (.int (Int32.ofInt 0))) (fun G427 => cond (pj_c1 .le y416 0) (L_232tx G0 263 0 y416 (Int32.ofInt 1) (Int32.ofInt 0) 0 0 G427) (L_232tx G0 263 0 y416 (Int32.ofInt 1) (Int32.ofInt 1) 0 0 G427))))
theorem F_232tx_e (G0 : pj_G) : F_232tx G0 = pj_nm (pj_wv G0 171 0 (.int (Int32.ofInt 0))) (fun G409 => pj_bd (F_182etx G409 ((Int8.ofInt 60).toInt32)) (fun y416 G417 => pj_nm (pj_wv G417 171 39 (.int (Int32.ofInt 0))) (fun G427 => cond (pj_c1 .le y416 0) (L_232tx G0 263 0 y416 (Int32.ofInt 1) (Int32.ofInt 0) 0 0 G427) (L_232tx G0 263 0 y416 (Int32.ofInt 1) (Int32.ofInt 1) 0 0 G427)))) := rfl
theorem lp_ct_231tx (G0 : pj_G) (hI0 : pj_Inv G0) (p0_ : pj_RI G0) (p1_ : (pj_fi G0 171 30).toInt ≤ 15) : ∀ mn : Nat, (∀ (G : pj_G) (hI : pj_Inv G) (hK : pj_kpt kc_231tx G0 G) (v1 : Int32) (v2 : Int32) (v3 : Int32), ((0 : Int) ≤ v1.toInt ∧ v1.toInt ≤ 80) → ((0 : Int) ≤ v2.toInt ∧ v2.toInt ≤ 1) → ((0 : Int) ≤ v3.toInt ∧ v3.toInt ≤ 1) → ((pj_fi G 171 30).toInt ≤ 15) → ((pj_fi G 171 18).toInt ≤ 60) → ((pj_fi G 171 39).toInt ≤ 60) → (1 ≤ v3.toInt → 2 * (pj_fi G 171 39).toInt ≤ (pj_fi G 171 17).toInt ∧ (pj_fi G 171 17).toInt ≤ 60) → ((pj_fi G 171 16).toInt = 0) → 261 - (pj_fi G 171 39).toInt < (mn : Int) → pj_X 18 pj_m231 G 29 [(0, .ref 171), (1, .int v1), (2, .int v2), (3, .int v3)] [] (fun v' G' => ∃ y : Int32, v' = some (.int y) ∧ pj_Inv G' ∧ pj_kpt kc_231tx G0 G' ∧ ((-2147483648 : Int) ≤ y.toInt ∧ y.toInt ≤ 2147483647) ∧ (((pj_fi G' 171 30).toInt ≤ 15) ∧ (pj_fi G' 171 16).toInt = 0) ∧ ((y, G') = L_232tx G0 mn 0 v1 v2 v3 0 0 G))) ∧ (∀ (G : pj_G) (hI : pj_Inv G) (hK : pj_kpt kc_231tx G0 G) (v1 : Int32) (v2 : Int32) (v3 : Int32) (v4 : Int32) (v5 : Int32), ((-2147483648 : Int) ≤ v1.toInt ∧ v1.toInt ≤ 2147483647) → ((-2147483648 : Int) ≤ v2.toInt ∧ v2.toInt ≤ 2147483647) → ((-2147483648 : Int) ≤ v3.toInt ∧ v3.toInt ≤ 2147483647) → ((-2147483648 : Int) ≤ v4.toInt ∧ v4.toInt ≤ 2147483647) → ((0 : Int) ≤ v5.toInt ∧ v5.toInt ≤ 60) → ((pj_fi G 171 30).toInt ≤ 15) → ((pj_fi G 171 16).toInt = 0) → 60 - v5.toInt < (mn : Int) → pj_X 18 pj_m231 G 89 [(0, .ref 171), (1, .int v1), (2, .int v2), (3, .int v3), (4, .int v4), (5, .int v5)] [] (fun v' G' => ∃ y : Int32, v' = some (.int y) ∧ pj_Inv G' ∧ pj_kpt kc_231tx G0 G' ∧ ((-2147483648 : Int) ≤ y.toInt ∧ y.toInt ≤ 2147483647) ∧ (((pj_fi G' 171 30).toInt ≤ 15) ∧ (pj_fi G' 171 16).toInt = 0) ∧ ((y, G') = L_232tx G0 mn 1 v1 v2 v3 v4 v5 G))) := by
  have c0_ : ((Int8.ofInt 59).toInt32).toInt = 59 := by decide
  have c1_ : ((Int8.ofInt 60).toInt32).toInt = 60 := by decide
  have c2_ : (Int32.ofInt 0).toInt = 0 := by decide
  have c3_ : (Int32.ofInt 1).toInt = 1 := by decide
  intro mn
  induction mn with
  | zero =>
    refine ⟨?_, ?_⟩
    · intro G hI hK v1 v2 v3 rv1 rv2 rv3 x0_ x1_ x2_ x3_ x4_ hm
      exfalso
      omega
    · intro G hI hK v1 v2 v3 v4 v5 rv1 rv2 rv3 rv4 rv5 x0_ x1_ hm
      exfalso
      omega
  | succ mn ih =>
    refine ⟨?_, ?_⟩
    · intro G hI hK v1 v2 v3 rv1 rv2 rv3 x0_ x1_ x2_ x3_ x4_ hm
      rw [L_232tx_s0]
      obtain ⟨y1, hy1⟩ : ∃ z : Int32, z = pj_fi G 171 30 := ⟨_, rfl⟩
      have ey1 : (pj_fi G 171 30).toInt = y1.toInt := by rw [hy1]
      have ry1 : (0 : Int) ≤ y1.toInt ∧ y1.toInt ≤ 16 := by rw [hy1]; exact hI.2.1 171 30 (0, 16) rfl
      obtain ⟨y2, hy2⟩ : ∃ z : Int32, z = pj_fi G 171 1 := ⟨_, rfl⟩
      have ey2 : (pj_fi G 171 1).toInt = y2.toInt := by rw [hy2]
      have ry2 : (0 : Int) ≤ y2.toInt ∧ y2.toInt ≤ 24 := by rw [hy2]; exact hI.2.1 171 1 (0, 24) rfl
      obtain ⟨y3, hy3⟩ : ∃ z : Int32, z = pj_fi G 171 39 := ⟨_, rfl⟩
      have ey3 : (pj_fi G 171 39).toInt = y3.toInt := by rw [hy3]
      have ry3 : (0 : Int) ≤ y3.toInt ∧ y3.toInt ≤ 60 := by rw [hy3]; exact hI.2.1 171 39 (0, 60) rfl
      obtain ⟨y4, hy4⟩ : ∃ z : Int32, z = pj_fi G 171 17 := ⟨_, rfl⟩
      have ey4 : (pj_fi G 171 17).toInt = y4.toInt := by rw [hy4]
      have ry4 : (0 : Int) ≤ y4.toInt ∧ y4.toInt ≤ 80 := by rw [hy4]; exact hI.2.1 171 17 (0, 80) rfl
      obtain ⟨y5, hy5⟩ : ∃ z : Int32, z = pj_fi G 171 18 := ⟨_, rfl⟩
      have ey5 : (pj_fi G 171 18).toInt = y5.toInt := by rw [hy5]
      have ry5 : (0 : Int) ≤ y5.toInt ∧ y5.toInt ≤ 80 := by rw [hy5]; exact hI.2.1 171 18 (0, 80) rfl
      obtain ⟨y6, hy6⟩ : ∃ z : Int32, z = pj_fi G 171 16 := ⟨_, rfl⟩
      have ey6 : (pj_fi G 171 16).toInt = y6.toInt := by rw [hy6]
      have ry6 : (0 : Int) ≤ y6.toInt ∧ y6.toInt ≤ 80 := by rw [hy6]; exact hI.2.1 171 16 (0, 80) rfl
      refine pj_X_of (fun r h => pj_R_to (G, 30, [(0, .ref 171), (1, .int v1), (2, .int v2), (3, .int v3)], [.int v3], 0, 0) 30 2 (fun _ => rfl) h) ?_
      cases b7 : pj_c1 .eq v3 0 with
      | true =>
        rw [pj_cT]
        have ub7 := pj_u0_eqT b7
        refine pj_X_of (fun r h => pj_R_ifT 60 rfl rfl b7 h) ?_
        refine pj_X_of (fun r h => pj_R_to (G, 65, [(0, .ref 171), (1, .int v1), (2, .int v2), (3, .int v3)], [.int v2, .int ((Int8.ofInt 60).toInt32), .int v1, .ref 171], 0, 0) 65 5 (fun _ => rfl) h) ?_
        have q8 : (pj_fi G 171 30).toInt = y1.toInt := by rw [show pj_fi G 171 30 = y1 from hy1.symm]
        have q9 : (pj_fi G 171 1).toInt = y2.toInt := by rw [show pj_fi G 171 1 = y2 from hy2.symm]
        have q10 : (pj_fi G 171 39).toInt = y3.toInt := by rw [show pj_fi G 171 39 = y3 from hy3.symm]
        have q11 : (pj_fi G 171 17).toInt = y4.toInt := by rw [show pj_fi G 171 17 = y4 from hy4.symm]
        have q12 : (pj_fi G 171 18).toInt = y5.toInt := by rw [show pj_fi G 171 18 = y5 from hy5.symm]
        have q13 : (pj_fi G 171 16).toInt = y6.toInt := by rw [show pj_fi G 171 16 = y6 from hy6.symm]
        refine pj_X_ca (vs := [.ref 171, .int v1, .int ((Int8.ofInt 60).toInt32), .int v2]) rfl (fun _ => rfl) ⟨Nat.le_of_ble_eq_true rfl, Nat.le_of_ble_eq_true rfl, pj_T_rcv hI rfl⟩ ⟨rfl, rfl⟩ (pj_Y_up (by decide) (ct_188x G hI v1 ((Int8.ofInt 60).toInt32) v2 ⟨by omega, by omega⟩ ⟨by omega, by omega⟩ ⟨by omega, by omega⟩)) ?_
        rintro _ _ ⟨y14, rfl, rfl, ry14, ey14, fy14⟩
        replace ey14 := ey14 _ rfl
        rw [← fy14, pj_nm_e]
        show pj_X _ _ G 68 [(0, .ref 171), (1, .int v1), (2, .int v2), (3, .int v3)] [.int y14] _
        refine pj_X_of (fun r h => pj_R_to (G, 72, [(4, .int y14), (0, .ref 171), (1, .int v1), (2, .int v2), (3, .int v3)], [.int y14], 0, 0) 72 3 (fun _ => rfl) h) ?_
        cases b15 : pj_c1 .ge y14 0 with
        | true =>
          rw [pj_cT]
          have ub15 := pj_u0_geT b15
          refine pj_X_of (fun r h => pj_R_ifT 78 rfl rfl b15 h) ?_
          refine pj_X_of (fun r h => pj_R_to (G, 79, [(4, .int y14), (0, .ref 171), (1, .int v1), (2, .int v2), (3, .int v3)], [.ref 171], 0, 0) 79 2 (fun _ => rfl) h) ?_
          have q16 : (pj_fi G 171 30).toInt = y1.toInt := by rw [show pj_fi G 171 30 = y1 from hy1.symm]
          have q17 : (pj_fi G 171 1).toInt = y2.toInt := by rw [show pj_fi G 171 1 = y2 from hy2.symm]
          have q18 : (pj_fi G 171 39).toInt = y3.toInt := by rw [show pj_fi G 171 39 = y3 from hy3.symm]
          have q19 : (pj_fi G 171 17).toInt = y4.toInt := by rw [show pj_fi G 171 17 = y4 from hy4.symm]
          have q20 : (pj_fi G 171 18).toInt = y5.toInt := by rw [show pj_fi G 171 18 = y5 from hy5.symm]
          have q21 : (pj_fi G 171 16).toInt = y6.toInt := by rw [show pj_fi G 171 16 = y6 from hy6.symm]
          refine pj_X_ca (vs := [.ref 171]) rfl (fun _ => rfl) ⟨Nat.le_of_ble_eq_true rfl, Nat.le_of_ble_eq_true rfl, pj_T_rcv hI rfl⟩ ⟨rfl, rfl⟩ (pj_Y_up (by decide) (ct_214x G hI (by omega))) ?_
          rintro _ G23 ⟨rfl, iG23, jG23, fy22⟩
          rw [← fy22, pj_nm_e]
          have kG23 : pj_kpt kc_231tx G0 G23 := pj_kpt_t hK (pj_kpt_s jG23 rfl)
          have q24 : (pj_fi G23 171 30).toInt = (pj_fi G 171 30).toInt := by rw [jG23.1 (171, 30) (by decide)]
          have q25 : (pj_fi G23 171 1).toInt = (pj_fi G 171 1).toInt := by rw [jG23.1 (171, 1) (by decide)]
          have q26 : (pj_fi G23 171 39).toInt = (pj_fi G 171 39).toInt := by rw [jG23.1 (171, 39) (by decide)]
          have q27 : (pj_fi G23 171 17).toInt = (pj_fi G 171 17).toInt := by rw [jG23.1 (171, 17) (by decide)]
          have q28 : (pj_fi G23 171 18).toInt = (pj_fi G 171 18).toInt := by rw [jG23.1 (171, 18) (by decide)]
          have q29 : (pj_fi G23 171 16).toInt = (pj_fi G 171 16).toInt := by rw [jG23.1 (171, 16) (by decide)]
          obtain ⟨y30, hy30⟩ : ∃ z : Int32, z = pj_fi G23 171 30 := ⟨_, rfl⟩
          have ey30 : (pj_fi G23 171 30).toInt = y30.toInt := by rw [hy30]
          have ry30 : (0 : Int) ≤ y30.toInt ∧ y30.toInt ≤ 16 := by rw [hy30]; exact iG23.2.1 171 30 (0, 16) rfl
          obtain ⟨y31, hy31⟩ : ∃ z : Int32, z = pj_fi G23 171 1 := ⟨_, rfl⟩
          have ey31 : (pj_fi G23 171 1).toInt = y31.toInt := by rw [hy31]
          have ry31 : (0 : Int) ≤ y31.toInt ∧ y31.toInt ≤ 24 := by rw [hy31]; exact iG23.2.1 171 1 (0, 24) rfl
          obtain ⟨y32, hy32⟩ : ∃ z : Int32, z = pj_fi G23 171 39 := ⟨_, rfl⟩
          have ey32 : (pj_fi G23 171 39).toInt = y32.toInt := by rw [hy32]
          have ry32 : (0 : Int) ≤ y32.toInt ∧ y32.toInt ≤ 60 := by rw [hy32]; exact iG23.2.1 171 39 (0, 60) rfl
          obtain ⟨y33, hy33⟩ : ∃ z : Int32, z = pj_fi G23 171 17 := ⟨_, rfl⟩
          have ey33 : (pj_fi G23 171 17).toInt = y33.toInt := by rw [hy33]
          have ry33 : (0 : Int) ≤ y33.toInt ∧ y33.toInt ≤ 80 := by rw [hy33]; exact iG23.2.1 171 17 (0, 80) rfl
          obtain ⟨y34, hy34⟩ : ∃ z : Int32, z = pj_fi G23 171 18 := ⟨_, rfl⟩
          have ey34 : (pj_fi G23 171 18).toInt = y34.toInt := by rw [hy34]
          have ry34 : (0 : Int) ≤ y34.toInt ∧ y34.toInt ≤ 80 := by rw [hy34]; exact iG23.2.1 171 18 (0, 80) rfl
          obtain ⟨y35, hy35⟩ : ∃ z : Int32, z = pj_fi G23 171 16 := ⟨_, rfl⟩
          have ey35 : (pj_fi G23 171 16).toInt = y35.toInt := by rw [hy35]
          have ry35 : (0 : Int) ≤ y35.toInt ∧ y35.toInt ≤ 80 := by rw [hy35]; exact iG23.2.1 171 16 (0, 80) rfl
          show pj_X _ _ G23 82 [(4, .int y14), (0, .ref 171), (1, .int v1), (2, .int v2), (3, .int v3)] [] _
          refine pj_X_of (fun r h => pj_R_to (G23, 83, [(4, .int y14), (0, .ref 171), (1, .int v1), (2, .int v2), (3, .int v3)], [.ref 171], 0, 0) 83 2 (fun _ => rfl) h) ?_
          have q36 : (pj_fi G23 171 30).toInt = y30.toInt := by rw [show pj_fi G23 171 30 = y30 from hy30.symm]
          have q37 : (pj_fi G23 171 1).toInt = y31.toInt := by rw [show pj_fi G23 171 1 = y31 from hy31.symm]
          have q38 : (pj_fi G23 171 39).toInt = y32.toInt := by rw [show pj_fi G23 171 39 = y32 from hy32.symm]
          have q39 : (pj_fi G23 171 17).toInt = y33.toInt := by rw [show pj_fi G23 171 17 = y33 from hy33.symm]
          have q40 : (pj_fi G23 171 18).toInt = y34.toInt := by rw [show pj_fi G23 171 18 = y34 from hy34.symm]
          have q41 : (pj_fi G23 171 16).toInt = y35.toInt := by rw [show pj_fi G23 171 16 = y35 from hy35.symm]
          refine pj_X_ca (vs := [.ref 171]) rfl (fun _ => rfl) ⟨Nat.le_of_ble_eq_true rfl, Nat.le_of_ble_eq_true rfl, pj_T_rcv iG23 rfl⟩ ⟨rfl, rfl⟩ (pj_Y_up (by decide) (ct_223x G23 iG23)) ?_
          rintro _ G43 ⟨rfl, iG43, jG43, fy42⟩
          rw [← fy42, pj_nm_e]
          have kG43 : pj_kpt kc_231tx G0 G43 := pj_kpt_t kG23 (pj_kpt_s jG43 rfl)
          have q44 : (pj_fi G43 171 30).toInt = (pj_fi G23 171 30).toInt := by rw [jG43.1 (171, 30) (by decide)]
          have q45 : (pj_fi G43 171 1).toInt = (pj_fi G23 171 1).toInt := by rw [jG43.1 (171, 1) (by decide)]
          have q46 : (pj_fi G43 171 39).toInt = (pj_fi G23 171 39).toInt := by rw [jG43.1 (171, 39) (by decide)]
          have q47 : (pj_fi G43 171 17).toInt = (pj_fi G23 171 17).toInt := by rw [jG43.1 (171, 17) (by decide)]
          have q48 : (pj_fi G43 171 18).toInt = (pj_fi G23 171 18).toInt := by rw [jG43.1 (171, 18) (by decide)]
          have q49 : (pj_fi G43 171 16).toInt = (pj_fi G23 171 16).toInt := by rw [jG43.1 (171, 16) (by decide)]
          obtain ⟨y50, hy50⟩ : ∃ z : Int32, z = pj_fi G43 171 30 := ⟨_, rfl⟩
          have ey50 : (pj_fi G43 171 30).toInt = y50.toInt := by rw [hy50]
          have ry50 : (0 : Int) ≤ y50.toInt ∧ y50.toInt ≤ 16 := by rw [hy50]; exact iG43.2.1 171 30 (0, 16) rfl
          obtain ⟨y51, hy51⟩ : ∃ z : Int32, z = pj_fi G43 171 1 := ⟨_, rfl⟩
          have ey51 : (pj_fi G43 171 1).toInt = y51.toInt := by rw [hy51]
          have ry51 : (0 : Int) ≤ y51.toInt ∧ y51.toInt ≤ 24 := by rw [hy51]; exact iG43.2.1 171 1 (0, 24) rfl
          obtain ⟨y52, hy52⟩ : ∃ z : Int32, z = pj_fi G43 171 39 := ⟨_, rfl⟩
          have ey52 : (pj_fi G43 171 39).toInt = y52.toInt := by rw [hy52]
          have ry52 : (0 : Int) ≤ y52.toInt ∧ y52.toInt ≤ 60 := by rw [hy52]; exact iG43.2.1 171 39 (0, 60) rfl
          obtain ⟨y53, hy53⟩ : ∃ z : Int32, z = pj_fi G43 171 17 := ⟨_, rfl⟩
          have ey53 : (pj_fi G43 171 17).toInt = y53.toInt := by rw [hy53]
          have ry53 : (0 : Int) ≤ y53.toInt ∧ y53.toInt ≤ 80 := by rw [hy53]; exact iG43.2.1 171 17 (0, 80) rfl
          obtain ⟨y54, hy54⟩ : ∃ z : Int32, z = pj_fi G43 171 18 := ⟨_, rfl⟩
          have ey54 : (pj_fi G43 171 18).toInt = y54.toInt := by rw [hy54]
          have ry54 : (0 : Int) ≤ y54.toInt ∧ y54.toInt ≤ 80 := by rw [hy54]; exact iG43.2.1 171 18 (0, 80) rfl
          obtain ⟨y55, hy55⟩ : ∃ z : Int32, z = pj_fi G43 171 16 := ⟨_, rfl⟩
          have ey55 : (pj_fi G43 171 16).toInt = y55.toInt := by rw [hy55]
          have ry55 : (0 : Int) ≤ y55.toInt ∧ y55.toInt ≤ 80 := by rw [hy55]; exact iG43.2.1 171 16 (0, 80) rfl
          show pj_X _ _ G43 86 [(4, .int y14), (0, .ref 171), (1, .int v1), (2, .int v2), (3, .int v3)] [] _
          refine pj_X_of (fun r h => pj_R_to (G43, 89, [(5, .int (Int32.ofInt 0)), (4, .int y14), (0, .ref 171), (1, .int v1), (2, .int v2), (3, .int v3)], [], 0, 0) 89 3 (fun _ => rfl) h) ?_
          have q56 : (pj_fi G43 171 30).toInt = y50.toInt := by rw [show pj_fi G43 171 30 = y50 from hy50.symm]
          have q57 : (pj_fi G43 171 1).toInt = y51.toInt := by rw [show pj_fi G43 171 1 = y51 from hy51.symm]
          have q58 : (pj_fi G43 171 39).toInt = y52.toInt := by rw [show pj_fi G43 171 39 = y52 from hy52.symm]
          have q59 : (pj_fi G43 171 17).toInt = y53.toInt := by rw [show pj_fi G43 171 17 = y53 from hy53.symm]
          have q60 : (pj_fi G43 171 18).toInt = y54.toInt := by rw [show pj_fi G43 171 18 = y54 from hy54.symm]
          have q61 : (pj_fi G43 171 16).toInt = y55.toInt := by rw [show pj_fi G43 171 16 = y55 from hy55.symm]
          exact pj_X_sub [(0, .ref 171), (1, .int v1), (2, .int v2), (3, .int v3), (4, .int y14), (5, .int (Int32.ofInt 0))] (show List.Nodup [0, 1, 2, 3, 4, 5] by decide) ⟨rfl, rfl, rfl, rfl, rfl, rfl, trivial⟩ (ih.2 G43 iG43 kG43 v1 v2 v3 y14 (Int32.ofInt 0) (pj_i32 _) (pj_i32 _) (pj_i32 _) (pj_i32 _) ⟨by omega, by omega⟩ (by omega) (by omega) (by omega))
        | false =>
          rw [pj_cF]
          have ub15 := pj_u0_geF b15
          refine pj_X_of (fun r h => pj_R_ifF rfl b15 h) ?_
          refine pj_X_of (fun r h => pj_R_to (G, 77, [(4, .int y14), (0, .ref 171), (1, .int v1), (2, .int v2), (3, .int v3)], [.int y14], 0, 0) 77 2 (fun _ => rfl) h) ?_
          have q62 : (pj_fi G 171 30).toInt = y1.toInt := by rw [show pj_fi G 171 30 = y1 from hy1.symm]
          have q63 : (pj_fi G 171 1).toInt = y2.toInt := by rw [show pj_fi G 171 1 = y2 from hy2.symm]
          have q64 : (pj_fi G 171 39).toInt = y3.toInt := by rw [show pj_fi G 171 39 = y3 from hy3.symm]
          have q65 : (pj_fi G 171 17).toInt = y4.toInt := by rw [show pj_fi G 171 17 = y4 from hy4.symm]
          have q66 : (pj_fi G 171 18).toInt = y5.toInt := by rw [show pj_fi G 171 18 = y5 from hy5.symm]
          have q67 : (pj_fi G 171 16).toInt = y6.toInt := by rw [show pj_fi G 171 16 = y6 from hy6.symm]
          exact pj_X_rt rfl rfl ⟨_, rfl, hI, hK, pj_i32 _, by omega, rfl⟩
      | false =>
        rw [pj_cF]
        have ub7 := pj_u0_eqF b7
        refine pj_X_of (fun r h => pj_R_ifF rfl b7 h) ?_
        refine pj_X_of (fun r h => pj_R_to (G, 34, [(0, .ref 171), (1, .int v1), (2, .int v2), (3, .int v3)], [.ref 171], 0, 0) 34 2 (fun _ => rfl) h) ?_
        have q68 : (pj_fi G 171 30).toInt = y1.toInt := by rw [show pj_fi G 171 30 = y1 from hy1.symm]
        have q69 : (pj_fi G 171 1).toInt = y2.toInt := by rw [show pj_fi G 171 1 = y2 from hy2.symm]
        have q70 : (pj_fi G 171 39).toInt = y3.toInt := by rw [show pj_fi G 171 39 = y3 from hy3.symm]
        have q71 : (pj_fi G 171 17).toInt = y4.toInt := by rw [show pj_fi G 171 17 = y4 from hy4.symm]
        have q72 : (pj_fi G 171 18).toInt = y5.toInt := by rw [show pj_fi G 171 18 = y5 from hy5.symm]
        have q73 : (pj_fi G 171 16).toInt = y6.toInt := by rw [show pj_fi G 171 16 = y6 from hy6.symm]
        refine pj_X_ca (vs := [.ref 171]) rfl (fun _ => rfl) ⟨Nat.le_of_ble_eq_true rfl, Nat.le_of_ble_eq_true rfl, pj_T_rcv hI rfl⟩ ⟨rfl, rfl⟩ (pj_Y_up (by decide) (ct_229x G hI (by omega))) ?_
        rintro _ G75 ⟨y74, rfl, iG75, jG75, ry74, ey74, fy74⟩
        replace ey74 := ey74 _ rfl
        rw [← fy74, pj_bd_e]
        have kG75 : pj_kpt kc_231tx G0 G75 := pj_kpt_t hK (pj_kpt_s jG75 rfl)
        have q76 : (pj_fi G75 171 30).toInt = (pj_fi G 171 30).toInt := by rw [jG75.1 (171, 30) (by decide)]
        have q77 : (pj_fi G75 171 1).toInt = (pj_fi G 171 1).toInt := by rw [jG75.1 (171, 1) (by decide)]
        have q78 : (pj_fi G75 171 18).toInt = (pj_fi G 171 18).toInt := by rw [jG75.1 (171, 18) (by decide)]
        have q79 : (pj_fi G75 171 16).toInt = (pj_fi G 171 16).toInt := by rw [jG75.1 (171, 16) (by decide)]
        obtain ⟨y80, hy80⟩ : ∃ z : Int32, z = pj_fi G75 171 30 := ⟨_, rfl⟩
        have ey80 : (pj_fi G75 171 30).toInt = y80.toInt := by rw [hy80]
        have ry80 : (0 : Int) ≤ y80.toInt ∧ y80.toInt ≤ 16 := by rw [hy80]; exact iG75.2.1 171 30 (0, 16) rfl
        obtain ⟨y81, hy81⟩ : ∃ z : Int32, z = pj_fi G75 171 1 := ⟨_, rfl⟩
        have ey81 : (pj_fi G75 171 1).toInt = y81.toInt := by rw [hy81]
        have ry81 : (0 : Int) ≤ y81.toInt ∧ y81.toInt ≤ 24 := by rw [hy81]; exact iG75.2.1 171 1 (0, 24) rfl
        obtain ⟨y82, hy82⟩ : ∃ z : Int32, z = pj_fi G75 171 39 := ⟨_, rfl⟩
        have ey82 : (pj_fi G75 171 39).toInt = y82.toInt := by rw [hy82]
        have ry82 : (0 : Int) ≤ y82.toInt ∧ y82.toInt ≤ 60 := by rw [hy82]; exact iG75.2.1 171 39 (0, 60) rfl
        obtain ⟨y83, hy83⟩ : ∃ z : Int32, z = pj_fi G75 171 17 := ⟨_, rfl⟩
        have ey83 : (pj_fi G75 171 17).toInt = y83.toInt := by rw [hy83]
        have ry83 : (0 : Int) ≤ y83.toInt ∧ y83.toInt ≤ 80 := by rw [hy83]; exact iG75.2.1 171 17 (0, 80) rfl
        obtain ⟨y84, hy84⟩ : ∃ z : Int32, z = pj_fi G75 171 18 := ⟨_, rfl⟩
        have ey84 : (pj_fi G75 171 18).toInt = y84.toInt := by rw [hy84]
        have ry84 : (0 : Int) ≤ y84.toInt ∧ y84.toInt ≤ 80 := by rw [hy84]; exact iG75.2.1 171 18 (0, 80) rfl
        obtain ⟨y85, hy85⟩ : ∃ z : Int32, z = pj_fi G75 171 16 := ⟨_, rfl⟩
        have ey85 : (pj_fi G75 171 16).toInt = y85.toInt := by rw [hy85]
        have ry85 : (0 : Int) ≤ y85.toInt ∧ y85.toInt ≤ 80 := by rw [hy85]; exact iG75.2.1 171 16 (0, 80) rfl
        show pj_X _ _ G75 37 [(0, .ref 171), (1, .int v1), (2, .int v2), (3, .int v3)] [.int y74] _
        refine pj_X_of (fun r h => pj_R_to (G75, 39, [(2, .int y74), (0, .ref 171), (1, .int v1), (3, .int v3)], [.int y74], 0, 0) 39 3 (fun _ => rfl) h) ?_
        cases b86 : pj_c1 .eq y74 0 with
        | true =>
          rw [pj_cT]
          have ub86 := pj_u0_eqT b86
          refine pj_X_of (fun r h => pj_R_ifT 55 rfl rfl b86 h) ?_
          refine pj_X_of (fun r h => pj_R_to (G75, 29, [(3, .int (Int32.ofInt 0)), (2, .int y74), (0, .ref 171), (1, .int v1)], [], 0, 0) 29 4 (fun _ => rfl) h) ?_
          have q87 : (pj_fi G75 171 30).toInt = y80.toInt := by rw [show pj_fi G75 171 30 = y80 from hy80.symm]
          have q88 : (pj_fi G75 171 1).toInt = y81.toInt := by rw [show pj_fi G75 171 1 = y81 from hy81.symm]
          have q89 : (pj_fi G75 171 39).toInt = y82.toInt := by rw [show pj_fi G75 171 39 = y82 from hy82.symm]
          have q90 : (pj_fi G75 171 17).toInt = y83.toInt := by rw [show pj_fi G75 171 17 = y83 from hy83.symm]
          have q91 : (pj_fi G75 171 18).toInt = y84.toInt := by rw [show pj_fi G75 171 18 = y84 from hy84.symm]
          have q92 : (pj_fi G75 171 16).toInt = y85.toInt := by rw [show pj_fi G75 171 16 = y85 from hy85.symm]
          exact pj_X_sub [(0, .ref 171), (1, .int v1), (2, .int y74), (3, .int (Int32.ofInt 0))] (show List.Nodup [0, 1, 2, 3] by decide) ⟨rfl, rfl, rfl, rfl, trivial⟩ (ih.1 G75 iG75 kG75 v1 y74 (Int32.ofInt 0) ⟨by omega, by omega⟩ ⟨by omega, by omega⟩ ⟨by omega, by omega⟩ (by omega) (by omega) (by omega) (by omega) (by omega) (by omega))
        | false =>
          rw [pj_cF]
          have ub86 := pj_u0_eqF b86
          refine pj_X_of (fun r h => pj_R_ifF rfl b86 h) ?_
          refine pj_X_of (fun r h => pj_R_to (G75, 45, [(2, .int y74), (0, .ref 171), (1, .int v1), (3, .int v3)], [.int ((Int8.ofInt 59).toInt32), .ref 171], 0, 0) 45 3 (fun _ => rfl) h) ?_
          have q93 : (pj_fi G75 171 30).toInt = y80.toInt := by rw [show pj_fi G75 171 30 = y80 from hy80.symm]
          have q94 : (pj_fi G75 171 1).toInt = y81.toInt := by rw [show pj_fi G75 171 1 = y81 from hy81.symm]
          have q95 : (pj_fi G75 171 39).toInt = y82.toInt := by rw [show pj_fi G75 171 39 = y82 from hy82.symm]
          have q96 : (pj_fi G75 171 17).toInt = y83.toInt := by rw [show pj_fi G75 171 17 = y83 from hy83.symm]
          have q97 : (pj_fi G75 171 18).toInt = y84.toInt := by rw [show pj_fi G75 171 18 = y84 from hy84.symm]
          have q98 : (pj_fi G75 171 16).toInt = y85.toInt := by rw [show pj_fi G75 171 16 = y85 from hy85.symm]
          refine pj_X_ca (vs := [.ref 171, .int ((Int8.ofInt 59).toInt32)]) rfl (fun _ => rfl) ⟨Nat.le_of_ble_eq_true rfl, Nat.le_of_ble_eq_true rfl, pj_T_rcv iG75 rfl⟩ ⟨rfl, rfl⟩ (pj_Y_up (by decide) (ct_182x G75 iG75 ((Int8.ofInt 59).toInt32) ⟨by omega, by omega⟩)) ?_
          rintro _ G100 ⟨y99, rfl, iG100, jG100, ry99, ey99, fy99⟩
          replace ey99 := ey99 _ rfl
          rw [← fy99, pj_bd_e]
          have kG100 : pj_kpt kc_231tx G0 G100 := pj_kpt_t kG75 (pj_kpt_s jG100 rfl)
          have q101 : (pj_fi G100 171 30).toInt = (pj_fi G75 171 30).toInt := by rw [jG100.1 (171, 30) (by decide)]
          have q102 : (pj_fi G100 171 1).toInt = (pj_fi G75 171 1).toInt := by rw [jG100.1 (171, 1) (by decide)]
          have q103 : (pj_fi G100 171 39).toInt = (pj_fi G75 171 39).toInt := by rw [jG100.1 (171, 39) (by decide)]
          have q104 : (pj_fi G100 171 18).toInt = (pj_fi G75 171 18).toInt := by rw [jG100.1 (171, 18) (by decide)]
          have q105 : (pj_fi G100 171 16).toInt = (pj_fi G75 171 16).toInt := by rw [jG100.1 (171, 16) (by decide)]
          obtain ⟨y106, hy106⟩ : ∃ z : Int32, z = pj_fi G100 171 30 := ⟨_, rfl⟩
          have ey106 : (pj_fi G100 171 30).toInt = y106.toInt := by rw [hy106]
          have ry106 : (0 : Int) ≤ y106.toInt ∧ y106.toInt ≤ 16 := by rw [hy106]; exact iG100.2.1 171 30 (0, 16) rfl
          obtain ⟨y107, hy107⟩ : ∃ z : Int32, z = pj_fi G100 171 1 := ⟨_, rfl⟩
          have ey107 : (pj_fi G100 171 1).toInt = y107.toInt := by rw [hy107]
          have ry107 : (0 : Int) ≤ y107.toInt ∧ y107.toInt ≤ 24 := by rw [hy107]; exact iG100.2.1 171 1 (0, 24) rfl
          obtain ⟨y108, hy108⟩ : ∃ z : Int32, z = pj_fi G100 171 39 := ⟨_, rfl⟩
          have ey108 : (pj_fi G100 171 39).toInt = y108.toInt := by rw [hy108]
          have ry108 : (0 : Int) ≤ y108.toInt ∧ y108.toInt ≤ 60 := by rw [hy108]; exact iG100.2.1 171 39 (0, 60) rfl
          obtain ⟨y109, hy109⟩ : ∃ z : Int32, z = pj_fi G100 171 17 := ⟨_, rfl⟩
          have ey109 : (pj_fi G100 171 17).toInt = y109.toInt := by rw [hy109]
          have ry109 : (0 : Int) ≤ y109.toInt ∧ y109.toInt ≤ 80 := by rw [hy109]; exact iG100.2.1 171 17 (0, 80) rfl
          obtain ⟨y110, hy110⟩ : ∃ z : Int32, z = pj_fi G100 171 18 := ⟨_, rfl⟩
          have ey110 : (pj_fi G100 171 18).toInt = y110.toInt := by rw [hy110]
          have ry110 : (0 : Int) ≤ y110.toInt ∧ y110.toInt ≤ 80 := by rw [hy110]; exact iG100.2.1 171 18 (0, 80) rfl
          obtain ⟨y111, hy111⟩ : ∃ z : Int32, z = pj_fi G100 171 16 := ⟨_, rfl⟩
          have ey111 : (pj_fi G100 171 16).toInt = y111.toInt := by rw [hy111]
          have ry111 : (0 : Int) ≤ y111.toInt ∧ y111.toInt ≤ 80 := by rw [hy111]; exact iG100.2.1 171 16 (0, 80) rfl
          show pj_X _ _ G100 48 [(2, .int y74), (0, .ref 171), (1, .int v1), (3, .int v3)] [.int y99] _
          cases b112 : pj_c1 .eq y99 0 with
          | true =>
            rw [pj_cT]
            have ub112 := pj_u0_eqT b112
            refine pj_X_of (fun r h => pj_R_ifT 55 rfl rfl b112 h) ?_
            refine pj_X_of (fun r h => pj_R_to (G100, 29, [(3, .int (Int32.ofInt 0)), (2, .int y74), (0, .ref 171), (1, .int v1)], [], 0, 0) 29 4 (fun _ => rfl) h) ?_
            have q113 : (pj_fi G100 171 30).toInt = y106.toInt := by rw [show pj_fi G100 171 30 = y106 from hy106.symm]
            have q114 : (pj_fi G100 171 1).toInt = y107.toInt := by rw [show pj_fi G100 171 1 = y107 from hy107.symm]
            have q115 : (pj_fi G100 171 39).toInt = y108.toInt := by rw [show pj_fi G100 171 39 = y108 from hy108.symm]
            have q116 : (pj_fi G100 171 17).toInt = y109.toInt := by rw [show pj_fi G100 171 17 = y109 from hy109.symm]
            have q117 : (pj_fi G100 171 18).toInt = y110.toInt := by rw [show pj_fi G100 171 18 = y110 from hy110.symm]
            have q118 : (pj_fi G100 171 16).toInt = y111.toInt := by rw [show pj_fi G100 171 16 = y111 from hy111.symm]
            exact pj_X_sub [(0, .ref 171), (1, .int v1), (2, .int y74), (3, .int (Int32.ofInt 0))] (show List.Nodup [0, 1, 2, 3] by decide) ⟨rfl, rfl, rfl, rfl, trivial⟩ (ih.1 G100 iG100 kG100 v1 y74 (Int32.ofInt 0) ⟨by omega, by omega⟩ ⟨by omega, by omega⟩ ⟨by omega, by omega⟩ (by omega) (by omega) (by omega) (by omega) (by omega) (by omega))
          | false =>
            rw [pj_cF]
            have ub112 := pj_u0_eqF b112
            refine pj_X_of (fun r h => pj_R_ifF rfl b112 h) ?_
            refine pj_X_of (fun r h => pj_R_to (G100, 29, [(3, .int (Int32.ofInt 1)), (2, .int y74), (0, .ref 171), (1, .int v1)], [], 0, 0) 29 5 (fun _ => rfl) h) ?_
            have q119 : (pj_fi G100 171 30).toInt = y106.toInt := by rw [show pj_fi G100 171 30 = y106 from hy106.symm]
            have q120 : (pj_fi G100 171 1).toInt = y107.toInt := by rw [show pj_fi G100 171 1 = y107 from hy107.symm]
            have q121 : (pj_fi G100 171 39).toInt = y108.toInt := by rw [show pj_fi G100 171 39 = y108 from hy108.symm]
            have q122 : (pj_fi G100 171 17).toInt = y109.toInt := by rw [show pj_fi G100 171 17 = y109 from hy109.symm]
            have q123 : (pj_fi G100 171 18).toInt = y110.toInt := by rw [show pj_fi G100 171 18 = y110 from hy110.symm]
            have q124 : (pj_fi G100 171 16).toInt = y111.toInt := by rw [show pj_fi G100 171 16 = y111 from hy111.symm]
            exact pj_X_sub [(0, .ref 171), (1, .int v1), (2, .int y74), (3, .int (Int32.ofInt 1))] (show List.Nodup [0, 1, 2, 3] by decide) ⟨rfl, rfl, rfl, rfl, trivial⟩ (ih.1 G100 iG100 kG100 v1 y74 (Int32.ofInt 1) ⟨by omega, by omega⟩ ⟨by omega, by omega⟩ ⟨by omega, by omega⟩ (by omega) (by omega) (by omega) (by omega) (by omega) (by omega))
    · intro G hI hK v1 v2 v3 v4 v5 rv1 rv2 rv3 rv4 rv5 x0_ x1_ hm
      rw [L_232tx_s1]
      obtain ⟨y125, hy125⟩ : ∃ z : Int32, z = pj_fi G 171 30 := ⟨_, rfl⟩
      have ey125 : (pj_fi G 171 30).toInt = y125.toInt := by rw [hy125]
      have ry125 : (0 : Int) ≤ y125.toInt ∧ y125.toInt ≤ 16 := by rw [hy125]; exact hI.2.1 171 30 (0, 16) rfl
      obtain ⟨y126, hy126⟩ : ∃ z : Int32, z = pj_fi G 171 1 := ⟨_, rfl⟩
      have ey126 : (pj_fi G 171 1).toInt = y126.toInt := by rw [hy126]
      have ry126 : (0 : Int) ≤ y126.toInt ∧ y126.toInt ≤ 24 := by rw [hy126]; exact hI.2.1 171 1 (0, 24) rfl
      obtain ⟨y127, hy127⟩ : ∃ z : Int32, z = pj_fi G 171 39 := ⟨_, rfl⟩
      have ey127 : (pj_fi G 171 39).toInt = y127.toInt := by rw [hy127]
      have ry127 : (0 : Int) ≤ y127.toInt ∧ y127.toInt ≤ 60 := by rw [hy127]; exact hI.2.1 171 39 (0, 60) rfl
      obtain ⟨y128, hy128⟩ : ∃ z : Int32, z = pj_fi G 171 17 := ⟨_, rfl⟩
      have ey128 : (pj_fi G 171 17).toInt = y128.toInt := by rw [hy128]
      have ry128 : (0 : Int) ≤ y128.toInt ∧ y128.toInt ≤ 80 := by rw [hy128]; exact hI.2.1 171 17 (0, 80) rfl
      obtain ⟨y129, hy129⟩ : ∃ z : Int32, z = pj_fi G 171 18 := ⟨_, rfl⟩
      have ey129 : (pj_fi G 171 18).toInt = y129.toInt := by rw [hy129]
      have ry129 : (0 : Int) ≤ y129.toInt ∧ y129.toInt ≤ 80 := by rw [hy129]; exact hI.2.1 171 18 (0, 80) rfl
      obtain ⟨y130, hy130⟩ : ∃ z : Int32, z = pj_fi G 171 16 := ⟨_, rfl⟩
      have ey130 : (pj_fi G 171 16).toInt = y130.toInt := by rw [hy130]
      have ry130 : (0 : Int) ≤ y130.toInt ∧ y130.toInt ≤ 80 := by rw [hy130]; exact hI.2.1 171 16 (0, 80) rfl
      refine pj_X_of (fun r h => pj_R_to (G, 92, [(0, .ref 171), (1, .int v1), (2, .int v2), (3, .int v3), (4, .int v4), (5, .int v5)], [.ref 171, .int v5], 0, 0) 92 3 (fun _ => rfl) h) ?_
      refine pj_X_of (fun r h => pj_T_gi hI rfl rfl h) ?_
      show pj_X _ _ G 95 [(0, .ref 171), (1, .int v1), (2, .int v2), (3, .int v3), (4, .int v4), (5, .int v5)] [.int (pj_fi G 171 39), .int v5] _
      rw [← hy127, pj_nm_e]
      cases b131 : pj_c1 .ge v5 y127 with
      | true =>
        rw [pj_cT]
        have ub131 := pj_u_geT b131
        refine pj_X_of (fun r h => pj_R_icT 113 rfl rfl b131 h) ?_
        refine pj_X_of (fun r h => pj_R_to (G, 115, [(0, .ref 171), (1, .int v1), (2, .int v2), (3, .int v3), (4, .int v4), (5, .int v5)], [.int (Int32.ofInt 0), .ref 171], 0, 0) 115 3 (fun _ => rfl) h) ?_
        refine pj_X_of (fun r h => pj_T_pf hI rfl rfl rfl h) ?_
        show pj_X _ _ (pj_wv G 171 1 (.int (Int32.ofInt 0))) 118 [(0, .ref 171), (1, .int v1), (2, .int v2), (3, .int v3), (4, .int v4), (5, .int v5)] [] _
        obtain ⟨G132, hG132⟩ : ∃ H, H = pj_wv G 171 1 (.int (Int32.ofInt 0)) := ⟨_, rfl⟩
        have iG132 : pj_Inv G132 := by rw [hG132]; exact pj_Inv_wi hI (ci := 12) rfl (fun q hq => by cases hq; exact ⟨by show (0 : Int) ≤ _; omega, by show _ ≤ (24 : Int); omega⟩)
        have kG132 : pj_kpt kc_231tx G0 G132 := by rw [hG132]; exact pj_kpt_v hK rfl
        rw [← hG132]
        rw [pj_nm_e]
        refine pj_X_of (fun r h => pj_R_to (G132, 122, [(0, .ref 171), (1, .int v1), (2, .int v2), (3, .int v3), (4, .int v4), (5, .int v5)], [.ref 171, .int v5, .ref 171], 0, 0) 122 4 (fun _ => rfl) h) ?_
        refine pj_X_of (fun r h => pj_T_gi iG132 rfl rfl h) ?_
        show pj_X _ _ G132 125 [(0, .ref 171), (1, .int v1), (2, .int v2), (3, .int v3), (4, .int v4), (5, .int v5)] [.int (pj_fi G132 171 39), .int v5, .ref 171] _
        refine pj_X_eqi (show pj_fi G132 171 39 = y127 from by rw [hG132, pj_fi_wv_ne _ _ _ _ _ _ (by decide)]; exact hy127.symm) ?_
        refine pj_X_of (fun r h => pj_R_icT 132 rfl rfl b131 h) ?_
        refine pj_X_of (fun r h => pj_R_to (G132, 133, [(0, .ref 171), (1, .int v1), (2, .int v2), (3, .int v3), (4, .int v4), (5, .int v5)], [.int (Int32.ofInt 0), .ref 171], 0, 0) 133 2 (fun _ => rfl) h) ?_
        have q133 : (pj_fi G132 171 30).toInt = y125.toInt := by rw [show pj_fi G132 171 30 = y125 from by rw [hG132, pj_fi_wv_ne _ _ _ _ _ _ (by decide)]; exact hy125.symm]
        have q134 : (pj_fi G132 171 1).toInt = (Int32.ofInt 0).toInt := by rw [show pj_fi G132 171 1 = Int32.ofInt 0 from by rw [hG132]; exact pj_fi_wi hI.1 (ci := 12) rfl _]
        have q135 : (pj_fi G132 171 39).toInt = y127.toInt := by rw [show pj_fi G132 171 39 = y127 from by rw [hG132, pj_fi_wv_ne _ _ _ _ _ _ (by decide)]; exact hy127.symm]
        have q136 : (pj_fi G132 171 17).toInt = y128.toInt := by rw [show pj_fi G132 171 17 = y128 from by rw [hG132, pj_fi_wv_ne _ _ _ _ _ _ (by decide)]; exact hy128.symm]
        have q137 : (pj_fi G132 171 18).toInt = y129.toInt := by rw [show pj_fi G132 171 18 = y129 from by rw [hG132, pj_fi_wv_ne _ _ _ _ _ _ (by decide)]; exact hy129.symm]
        have q138 : (pj_fi G132 171 16).toInt = y130.toInt := by rw [show pj_fi G132 171 16 = y130 from by rw [hG132, pj_fi_wv_ne _ _ _ _ _ _ (by decide)]; exact hy130.symm]
        refine pj_X_ca (vs := [.int (Int32.ofInt 0)]) rfl (fun _ => rfl) ⟨Nat.le_of_ble_eq_true rfl, Nat.le_of_ble_eq_true rfl, rfl⟩ ⟨rfl, rfl⟩ (pj_Y_up (by decide) (ct_172x G132 iG132 (Int32.ofInt 0) ⟨by omega, by omega⟩)) ?_
        rintro _ _ ⟨y139, rfl, rfl, ry139, ey139, fy139⟩
        rw [← fy139, pj_nm_e]
        show pj_X _ _ G132 136 [(0, .ref 171), (1, .int v1), (2, .int v2), (3, .int v3), (4, .int v4), (5, .int v5)] [.int y139, .ref 171] _
        refine pj_X_of (fun r h => pj_R_to (G132, 137, [(0, .ref 171), (1, .int v1), (2, .int v2), (3, .int v3), (4, .int v4), (5, .int v5)], [.long y139.toInt64, .ref 171], 0, 0) 137 2 (fun _ => rfl) h) ?_
        have q140 : (pj_fi G132 171 30).toInt = y125.toInt := by rw [show pj_fi G132 171 30 = y125 from by rw [hG132, pj_fi_wv_ne _ _ _ _ _ _ (by decide)]; exact hy125.symm]
        have q141 : (pj_fi G132 171 1).toInt = (Int32.ofInt 0).toInt := by rw [show pj_fi G132 171 1 = Int32.ofInt 0 from by rw [hG132]; exact pj_fi_wi hI.1 (ci := 12) rfl _]
        have q142 : (pj_fi G132 171 39).toInt = y127.toInt := by rw [show pj_fi G132 171 39 = y127 from by rw [hG132, pj_fi_wv_ne _ _ _ _ _ _ (by decide)]; exact hy127.symm]
        have q143 : (pj_fi G132 171 17).toInt = y128.toInt := by rw [show pj_fi G132 171 17 = y128 from by rw [hG132, pj_fi_wv_ne _ _ _ _ _ _ (by decide)]; exact hy128.symm]
        have q144 : (pj_fi G132 171 18).toInt = y129.toInt := by rw [show pj_fi G132 171 18 = y129 from by rw [hG132, pj_fi_wv_ne _ _ _ _ _ _ (by decide)]; exact hy129.symm]
        have q145 : (pj_fi G132 171 16).toInt = y130.toInt := by rw [show pj_fi G132 171 16 = y130 from by rw [hG132, pj_fi_wv_ne _ _ _ _ _ _ (by decide)]; exact hy130.symm]
        have lc146 : (y139.toInt64).toInt = y139.toInt := Int32.toInt_toInt64 _
        refine pj_X_ca (vs := [.ref 171, .long y139.toInt64]) rfl (fun _ => rfl) ⟨Nat.le_of_ble_eq_true rfl, Nat.le_of_ble_eq_true rfl, pj_T_rcv iG132 rfl⟩ ⟨rfl, rfl⟩ (pj_Y_up (by decide) (ct_174fx G132 iG132 y139.toInt64 (by omega))) ?_
        rintro _ G148 ⟨rfl, iG148, jG148, eG148, fy147⟩
        replace eG148 := eG148 _ rfl
        rw [← fy147, pj_nm_e]
        have kG148 : pj_kpt kc_231tx G0 G148 := pj_kpt_t kG132 (pj_kpt_s jG148 rfl)
        have q149 : (pj_fi G148 171 30).toInt = (pj_fi G132 171 30).toInt := by rw [jG148.1 (171, 30) (by decide)]
        have q150 : (pj_fi G148 171 39).toInt = (pj_fi G132 171 39).toInt := by rw [jG148.1 (171, 39) (by decide)]
        have q151 : (pj_fi G148 171 17).toInt = (pj_fi G132 171 17).toInt := by rw [jG148.1 (171, 17) (by decide)]
        have q152 : (pj_fi G148 171 18).toInt = (pj_fi G132 171 18).toInt := by rw [jG148.1 (171, 18) (by decide)]
        have q153 : (pj_fi G148 171 16).toInt = (pj_fi G132 171 16).toInt := by rw [jG148.1 (171, 16) (by decide)]
        obtain ⟨y154, hy154⟩ : ∃ z : Int32, z = pj_fi G148 171 30 := ⟨_, rfl⟩
        have ey154 : (pj_fi G148 171 30).toInt = y154.toInt := by rw [hy154]
        have ry154 : (0 : Int) ≤ y154.toInt ∧ y154.toInt ≤ 16 := by rw [hy154]; exact iG148.2.1 171 30 (0, 16) rfl
        obtain ⟨y155, hy155⟩ : ∃ z : Int32, z = pj_fi G148 171 1 := ⟨_, rfl⟩
        have ey155 : (pj_fi G148 171 1).toInt = y155.toInt := by rw [hy155]
        have ry155 : (0 : Int) ≤ y155.toInt ∧ y155.toInt ≤ 24 := by rw [hy155]; exact iG148.2.1 171 1 (0, 24) rfl
        obtain ⟨y156, hy156⟩ : ∃ z : Int32, z = pj_fi G148 171 39 := ⟨_, rfl⟩
        have ey156 : (pj_fi G148 171 39).toInt = y156.toInt := by rw [hy156]
        have ry156 : (0 : Int) ≤ y156.toInt ∧ y156.toInt ≤ 60 := by rw [hy156]; exact iG148.2.1 171 39 (0, 60) rfl
        obtain ⟨y157, hy157⟩ : ∃ z : Int32, z = pj_fi G148 171 17 := ⟨_, rfl⟩
        have ey157 : (pj_fi G148 171 17).toInt = y157.toInt := by rw [hy157]
        have ry157 : (0 : Int) ≤ y157.toInt ∧ y157.toInt ≤ 80 := by rw [hy157]; exact iG148.2.1 171 17 (0, 80) rfl
        obtain ⟨y158, hy158⟩ : ∃ z : Int32, z = pj_fi G148 171 18 := ⟨_, rfl⟩
        have ey158 : (pj_fi G148 171 18).toInt = y158.toInt := by rw [hy158]
        have ry158 : (0 : Int) ≤ y158.toInt ∧ y158.toInt ≤ 80 := by rw [hy158]; exact iG148.2.1 171 18 (0, 80) rfl
        obtain ⟨y159, hy159⟩ : ∃ z : Int32, z = pj_fi G148 171 16 := ⟨_, rfl⟩
        have ey159 : (pj_fi G148 171 16).toInt = y159.toInt := by rw [hy159]
        have ry159 : (0 : Int) ≤ y159.toInt ∧ y159.toInt ≤ 80 := by rw [hy159]; exact iG148.2.1 171 16 (0, 80) rfl
        show pj_X _ _ G148 140 [(0, .ref 171), (1, .int v1), (2, .int v2), (3, .int v3), (4, .int v4), (5, .int v5)] [] _
        refine pj_X_of (fun r h => pj_R_to (G148, 142, [(0, .ref 171), (1, .int v1), (2, .int v2), (3, .int v3), (4, .int v4), (5, .int v5)], [.ref 171, .ref 171], 0, 0) 142 3 (fun _ => rfl) h) ?_
        refine pj_X_of (fun r h => pj_T_gi iG148 rfl rfl h) ?_
        show pj_X _ _ G148 145 [(0, .ref 171), (1, .int v1), (2, .int v2), (3, .int v3), (4, .int v4), (5, .int v5)] [.int (pj_fi G148 171 35), .ref 171] _
        obtain ⟨y160, hy160⟩ : ∃ z : Int32, z = pj_fi G148 171 35 := ⟨_, rfl⟩
        refine pj_X_eqi hy160.symm ?_
        rw [← hy160, pj_nm_e]
        have ey160 : (pj_fi G148 171 35).toInt = y160.toInt := by rw [hy160]
        refine pj_X_of (fun r h => pj_R_to (G148, 146, [(0, .ref 171), (1, .int v1), (2, .int v2), (3, .int v3), (4, .int v4), (5, .int v5)], [.long y160.toInt64, .ref 171], 0, 0) 146 2 (fun _ => rfl) h) ?_
        have q161 : (pj_fi G148 171 30).toInt = y154.toInt := by rw [show pj_fi G148 171 30 = y154 from hy154.symm]
        have q162 : (pj_fi G148 171 1).toInt = y155.toInt := by rw [show pj_fi G148 171 1 = y155 from hy155.symm]
        have q163 : (pj_fi G148 171 39).toInt = y156.toInt := by rw [show pj_fi G148 171 39 = y156 from hy156.symm]
        have q164 : (pj_fi G148 171 17).toInt = y157.toInt := by rw [show pj_fi G148 171 17 = y157 from hy157.symm]
        have q165 : (pj_fi G148 171 18).toInt = y158.toInt := by rw [show pj_fi G148 171 18 = y158 from hy158.symm]
        have q166 : (pj_fi G148 171 16).toInt = y159.toInt := by rw [show pj_fi G148 171 16 = y159 from hy159.symm]
        have lc167 : (y160.toInt64).toInt = y160.toInt := Int32.toInt_toInt64 _
        refine pj_X_ca (vs := [.ref 171, .long y160.toInt64]) rfl (fun _ => rfl) ⟨Nat.le_of_ble_eq_true rfl, Nat.le_of_ble_eq_true rfl, pj_T_rcv iG148 rfl⟩ ⟨rfl, rfl⟩ (pj_Y_up (by decide) (ct_174fx G148 iG148 y160.toInt64 (by omega))) ?_
        rintro _ G169 ⟨rfl, iG169, jG169, eG169, fy168⟩
        replace eG169 := eG169 _ rfl
        rw [← fy168, pj_nm_e]
        have kG169 : pj_kpt kc_231tx G0 G169 := pj_kpt_t kG148 (pj_kpt_s jG169 rfl)
        have q170 : (pj_fi G169 171 30).toInt = (pj_fi G148 171 30).toInt := by rw [jG169.1 (171, 30) (by decide)]
        have q171 : (pj_fi G169 171 39).toInt = (pj_fi G148 171 39).toInt := by rw [jG169.1 (171, 39) (by decide)]
        have q172 : (pj_fi G169 171 17).toInt = (pj_fi G148 171 17).toInt := by rw [jG169.1 (171, 17) (by decide)]
        have q173 : (pj_fi G169 171 18).toInt = (pj_fi G148 171 18).toInt := by rw [jG169.1 (171, 18) (by decide)]
        have q174 : (pj_fi G169 171 16).toInt = (pj_fi G148 171 16).toInt := by rw [jG169.1 (171, 16) (by decide)]
        obtain ⟨y175, hy175⟩ : ∃ z : Int32, z = pj_fi G169 171 30 := ⟨_, rfl⟩
        have ey175 : (pj_fi G169 171 30).toInt = y175.toInt := by rw [hy175]
        have ry175 : (0 : Int) ≤ y175.toInt ∧ y175.toInt ≤ 16 := by rw [hy175]; exact iG169.2.1 171 30 (0, 16) rfl
        obtain ⟨y176, hy176⟩ : ∃ z : Int32, z = pj_fi G169 171 1 := ⟨_, rfl⟩
        have ey176 : (pj_fi G169 171 1).toInt = y176.toInt := by rw [hy176]
        have ry176 : (0 : Int) ≤ y176.toInt ∧ y176.toInt ≤ 24 := by rw [hy176]; exact iG169.2.1 171 1 (0, 24) rfl
        obtain ⟨y177, hy177⟩ : ∃ z : Int32, z = pj_fi G169 171 39 := ⟨_, rfl⟩
        have ey177 : (pj_fi G169 171 39).toInt = y177.toInt := by rw [hy177]
        have ry177 : (0 : Int) ≤ y177.toInt ∧ y177.toInt ≤ 60 := by rw [hy177]; exact iG169.2.1 171 39 (0, 60) rfl
        obtain ⟨y178, hy178⟩ : ∃ z : Int32, z = pj_fi G169 171 17 := ⟨_, rfl⟩
        have ey178 : (pj_fi G169 171 17).toInt = y178.toInt := by rw [hy178]
        have ry178 : (0 : Int) ≤ y178.toInt ∧ y178.toInt ≤ 80 := by rw [hy178]; exact iG169.2.1 171 17 (0, 80) rfl
        obtain ⟨y179, hy179⟩ : ∃ z : Int32, z = pj_fi G169 171 18 := ⟨_, rfl⟩
        have ey179 : (pj_fi G169 171 18).toInt = y179.toInt := by rw [hy179]
        have ry179 : (0 : Int) ≤ y179.toInt ∧ y179.toInt ≤ 80 := by rw [hy179]; exact iG169.2.1 171 18 (0, 80) rfl
        obtain ⟨y180, hy180⟩ : ∃ z : Int32, z = pj_fi G169 171 16 := ⟨_, rfl⟩
        have ey180 : (pj_fi G169 171 16).toInt = y180.toInt := by rw [hy180]
        have ry180 : (0 : Int) ≤ y180.toInt ∧ y180.toInt ≤ 80 := by rw [hy180]; exact iG169.2.1 171 16 (0, 80) rfl
        show pj_X _ _ G169 149 [(0, .ref 171), (1, .int v1), (2, .int v2), (3, .int v3), (4, .int v4), (5, .int v5)] [] _
        refine pj_X_of (fun r h => pj_R_to (G169, 151, [(0, .ref 171), (1, .int v1), (2, .int v2), (3, .int v3), (4, .int v4), (5, .int v5)], [.int v5], 0, 0) 151 2 (fun _ => rfl) h) ?_
        cases b181 : pj_c1 .le v5 0 with
        | true =>
          rw [pj_cT]
          have ub181 := pj_u0_leT b181
          refine pj_X_of (fun r h => pj_R_ifT 163 rfl rfl b181 h) ?_
          refine pj_X_of (fun r h => pj_R_to (G169, 164, [(0, .ref 171), (1, .int v1), (2, .int v2), (3, .int v3), (4, .int v4), (5, .int v5)], [.int (Int32.ofInt 0)], 0, 0) 164 2 (fun _ => rfl) h) ?_
          have q182 : (pj_fi G169 171 30).toInt = y175.toInt := by rw [show pj_fi G169 171 30 = y175 from hy175.symm]
          have q183 : (pj_fi G169 171 1).toInt = y176.toInt := by rw [show pj_fi G169 171 1 = y176 from hy176.symm]
          have q184 : (pj_fi G169 171 39).toInt = y177.toInt := by rw [show pj_fi G169 171 39 = y177 from hy177.symm]
          have q185 : (pj_fi G169 171 17).toInt = y178.toInt := by rw [show pj_fi G169 171 17 = y178 from hy178.symm]
          have q186 : (pj_fi G169 171 18).toInt = y179.toInt := by rw [show pj_fi G169 171 18 = y179 from hy179.symm]
          have q187 : (pj_fi G169 171 16).toInt = y180.toInt := by rw [show pj_fi G169 171 16 = y180 from hy180.symm]
          exact pj_X_rt rfl rfl ⟨_, rfl, iG169, kG169, pj_i32 _, by omega, rfl⟩
        | false =>
          rw [pj_cF]
          have ub181 := pj_u0_leF b181
          refine pj_X_of (fun r h => pj_R_ifF rfl b181 h) ?_
          refine pj_X_of (fun r h => pj_R_to (G169, 157, [(0, .ref 171), (1, .int v1), (2, .int v2), (3, .int v3), (4, .int v4), (5, .int v5)], [.int v5, .ref 171], 0, 0) 157 3 (fun _ => rfl) h) ?_
          have q188 : (pj_fi G169 171 30).toInt = y175.toInt := by rw [show pj_fi G169 171 30 = y175 from hy175.symm]
          have q189 : (pj_fi G169 171 1).toInt = y176.toInt := by rw [show pj_fi G169 171 1 = y176 from hy176.symm]
          have q190 : (pj_fi G169 171 39).toInt = y177.toInt := by rw [show pj_fi G169 171 39 = y177 from hy177.symm]
          have q191 : (pj_fi G169 171 17).toInt = y178.toInt := by rw [show pj_fi G169 171 17 = y178 from hy178.symm]
          have q192 : (pj_fi G169 171 18).toInt = y179.toInt := by rw [show pj_fi G169 171 18 = y179 from hy179.symm]
          have q193 : (pj_fi G169 171 16).toInt = y180.toInt := by rw [show pj_fi G169 171 16 = y180 from hy180.symm]
          refine pj_X_ca (vs := [.ref 171, .int v5]) rfl (fun _ => rfl) ⟨Nat.le_of_ble_eq_true rfl, Nat.le_of_ble_eq_true rfl, pj_T_rcv iG169 rfl⟩ ⟨rfl, rfl⟩ (pj_Y_up (by decide) (ct_215x G169 iG169 v5 (by omega))) ?_
          rintro _ G195 ⟨y194, rfl, iG195, jG195, ry194, ey194, fy194⟩
          rw [← fy194, pj_bd_e]
          have kG195 : pj_kpt kc_231tx G0 G195 := pj_kpt_t kG169 (pj_kpt_s jG195 rfl)
          have q196 : (pj_fi G195 171 1).toInt = (pj_fi G169 171 1).toInt := by rw [jG195.1 (171, 1) (by decide)]
          have q197 : (pj_fi G195 171 39).toInt = (pj_fi G169 171 39).toInt := by rw [jG195.1 (171, 39) (by decide)]
          have q198 : (pj_fi G195 171 17).toInt = (pj_fi G169 171 17).toInt := by rw [jG195.1 (171, 17) (by decide)]
          have q199 : (pj_fi G195 171 18).toInt = (pj_fi G169 171 18).toInt := by rw [jG195.1 (171, 18) (by decide)]
          have q200 : (pj_fi G195 171 16).toInt = (pj_fi G169 171 16).toInt := by rw [jG195.1 (171, 16) (by decide)]
          obtain ⟨y201, hy201⟩ : ∃ z : Int32, z = pj_fi G195 171 30 := ⟨_, rfl⟩
          have ey201 : (pj_fi G195 171 30).toInt = y201.toInt := by rw [hy201]
          have ry201 : (0 : Int) ≤ y201.toInt ∧ y201.toInt ≤ 16 := by rw [hy201]; exact iG195.2.1 171 30 (0, 16) rfl
          obtain ⟨y202, hy202⟩ : ∃ z : Int32, z = pj_fi G195 171 1 := ⟨_, rfl⟩
          have ey202 : (pj_fi G195 171 1).toInt = y202.toInt := by rw [hy202]
          have ry202 : (0 : Int) ≤ y202.toInt ∧ y202.toInt ≤ 24 := by rw [hy202]; exact iG195.2.1 171 1 (0, 24) rfl
          obtain ⟨y203, hy203⟩ : ∃ z : Int32, z = pj_fi G195 171 39 := ⟨_, rfl⟩
          have ey203 : (pj_fi G195 171 39).toInt = y203.toInt := by rw [hy203]
          have ry203 : (0 : Int) ≤ y203.toInt ∧ y203.toInt ≤ 60 := by rw [hy203]; exact iG195.2.1 171 39 (0, 60) rfl
          obtain ⟨y204, hy204⟩ : ∃ z : Int32, z = pj_fi G195 171 17 := ⟨_, rfl⟩
          have ey204 : (pj_fi G195 171 17).toInt = y204.toInt := by rw [hy204]
          have ry204 : (0 : Int) ≤ y204.toInt ∧ y204.toInt ≤ 80 := by rw [hy204]; exact iG195.2.1 171 17 (0, 80) rfl
          obtain ⟨y205, hy205⟩ : ∃ z : Int32, z = pj_fi G195 171 18 := ⟨_, rfl⟩
          have ey205 : (pj_fi G195 171 18).toInt = y205.toInt := by rw [hy205]
          have ry205 : (0 : Int) ≤ y205.toInt ∧ y205.toInt ≤ 80 := by rw [hy205]; exact iG195.2.1 171 18 (0, 80) rfl
          obtain ⟨y206, hy206⟩ : ∃ z : Int32, z = pj_fi G195 171 16 := ⟨_, rfl⟩
          have ey206 : (pj_fi G195 171 16).toInt = y206.toInt := by rw [hy206]
          have ry206 : (0 : Int) ≤ y206.toInt ∧ y206.toInt ≤ 80 := by rw [hy206]; exact iG195.2.1 171 16 (0, 80) rfl
          show pj_X _ _ G195 160 [(0, .ref 171), (1, .int v1), (2, .int v2), (3, .int v3), (4, .int v4), (5, .int v5)] [.int y194] _
          refine pj_X_of (fun r h => pj_R_to (G195, 164, [(0, .ref 171), (1, .int v1), (2, .int v2), (3, .int v3), (4, .int v4), (5, .int v5)], [.int y194], 0, 0) 164 2 (fun _ => rfl) h) ?_
          have q207 : (pj_fi G195 171 30).toInt = y201.toInt := by rw [show pj_fi G195 171 30 = y201 from hy201.symm]
          have q208 : (pj_fi G195 171 1).toInt = y202.toInt := by rw [show pj_fi G195 171 1 = y202 from hy202.symm]
          have q209 : (pj_fi G195 171 39).toInt = y203.toInt := by rw [show pj_fi G195 171 39 = y203 from hy203.symm]
          have q210 : (pj_fi G195 171 17).toInt = y204.toInt := by rw [show pj_fi G195 171 17 = y204 from hy204.symm]
          have q211 : (pj_fi G195 171 18).toInt = y205.toInt := by rw [show pj_fi G195 171 18 = y205 from hy205.symm]
          have q212 : (pj_fi G195 171 16).toInt = y206.toInt := by rw [show pj_fi G195 171 16 = y206 from hy206.symm]
          exact pj_X_rt rfl rfl ⟨_, rfl, iG195, kG195, pj_i32 _, by omega, rfl⟩
      | false =>
        rw [pj_cF]
        have ub131 := pj_u_geF b131
        refine pj_X_of (fun r h => pj_R_icF rfl b131 h) ?_
        refine pj_X_of (fun r h => pj_R_to (G, 101, [(0, .ref 171), (1, .int v1), (2, .int v2), (3, .int v3), (4, .int v4), (5, .int v5)], [.int v5, .ref 171], 0, 0) 101 3 (fun _ => rfl) h) ?_
        have q213 : (pj_fi G 171 30).toInt = y125.toInt := by rw [show pj_fi G 171 30 = y125 from hy125.symm]
        have q214 : (pj_fi G 171 1).toInt = y126.toInt := by rw [show pj_fi G 171 1 = y126 from hy126.symm]
        have q215 : (pj_fi G 171 39).toInt = y127.toInt := by rw [show pj_fi G 171 39 = y127 from hy127.symm]
        have q216 : (pj_fi G 171 17).toInt = y128.toInt := by rw [show pj_fi G 171 17 = y128 from hy128.symm]
        have q217 : (pj_fi G 171 18).toInt = y129.toInt := by rw [show pj_fi G 171 18 = y129 from hy129.symm]
        have q218 : (pj_fi G 171 16).toInt = y130.toInt := by rw [show pj_fi G 171 16 = y130 from hy130.symm]
        refine pj_X_ca (vs := [.ref 171, .int v5]) rfl (fun _ => rfl) ⟨Nat.le_of_ble_eq_true rfl, Nat.le_of_ble_eq_true rfl, pj_T_rcv hI rfl⟩ ⟨rfl, rfl⟩ (pj_Y_up (by decide) (ct_230x G hI v5 ⟨by omega, by omega⟩ (pj_RI_k p0_ hK rfl))) ?_
        rintro _ G220 ⟨y219, rfl, iG220, jG220, ry219, fy219⟩
        rw [← fy219, pj_bd_e]
        have kG220 : pj_kpt kc_231tx G0 G220 := pj_kpt_t hK (pj_kpt_s jG220 rfl)
        have q221 : (pj_fi G220 171 30).toInt = (pj_fi G 171 30).toInt := by rw [jG220.1 (171, 30) (by decide)]
        have q222 : (pj_fi G220 171 1).toInt = (pj_fi G 171 1).toInt := by rw [jG220.1 (171, 1) (by decide)]
        have q223 : (pj_fi G220 171 39).toInt = (pj_fi G 171 39).toInt := by rw [jG220.1 (171, 39) (by decide)]
        have q224 : (pj_fi G220 171 17).toInt = (pj_fi G 171 17).toInt := by rw [jG220.1 (171, 17) (by decide)]
        have q225 : (pj_fi G220 171 18).toInt = (pj_fi G 171 18).toInt := by rw [jG220.1 (171, 18) (by decide)]
        have q226 : (pj_fi G220 171 16).toInt = (pj_fi G 171 16).toInt := by rw [jG220.1 (171, 16) (by decide)]
        obtain ⟨y227, hy227⟩ : ∃ z : Int32, z = pj_fi G220 171 30 := ⟨_, rfl⟩
        have ey227 : (pj_fi G220 171 30).toInt = y227.toInt := by rw [hy227]
        have ry227 : (0 : Int) ≤ y227.toInt ∧ y227.toInt ≤ 16 := by rw [hy227]; exact iG220.2.1 171 30 (0, 16) rfl
        obtain ⟨y228, hy228⟩ : ∃ z : Int32, z = pj_fi G220 171 1 := ⟨_, rfl⟩
        have ey228 : (pj_fi G220 171 1).toInt = y228.toInt := by rw [hy228]
        have ry228 : (0 : Int) ≤ y228.toInt ∧ y228.toInt ≤ 24 := by rw [hy228]; exact iG220.2.1 171 1 (0, 24) rfl
        obtain ⟨y229, hy229⟩ : ∃ z : Int32, z = pj_fi G220 171 39 := ⟨_, rfl⟩
        have ey229 : (pj_fi G220 171 39).toInt = y229.toInt := by rw [hy229]
        have ry229 : (0 : Int) ≤ y229.toInt ∧ y229.toInt ≤ 60 := by rw [hy229]; exact iG220.2.1 171 39 (0, 60) rfl
        obtain ⟨y230, hy230⟩ : ∃ z : Int32, z = pj_fi G220 171 17 := ⟨_, rfl⟩
        have ey230 : (pj_fi G220 171 17).toInt = y230.toInt := by rw [hy230]
        have ry230 : (0 : Int) ≤ y230.toInt ∧ y230.toInt ≤ 80 := by rw [hy230]; exact iG220.2.1 171 17 (0, 80) rfl
        obtain ⟨y231, hy231⟩ : ∃ z : Int32, z = pj_fi G220 171 18 := ⟨_, rfl⟩
        have ey231 : (pj_fi G220 171 18).toInt = y231.toInt := by rw [hy231]
        have ry231 : (0 : Int) ≤ y231.toInt ∧ y231.toInt ≤ 80 := by rw [hy231]; exact iG220.2.1 171 18 (0, 80) rfl
        obtain ⟨y232, hy232⟩ : ∃ z : Int32, z = pj_fi G220 171 16 := ⟨_, rfl⟩
        have ey232 : (pj_fi G220 171 16).toInt = y232.toInt := by rw [hy232]
        have ry232 : (0 : Int) ≤ y232.toInt ∧ y232.toInt ≤ 80 := by rw [hy232]; exact iG220.2.1 171 16 (0, 80) rfl
        show pj_X _ _ G220 104 [(0, .ref 171), (1, .int v1), (2, .int v2), (3, .int v3), (4, .int v4), (5, .int v5)] [.int y219] _
        cases b233 : pj_c1 .eq y219 0 with
        | true =>
          rw [pj_cT]
          have ub233 := pj_u0_eqT b233
          refine pj_X_of (fun r h => pj_R_ifT 113 rfl rfl b233 h) ?_
          refine pj_X_of (fun r h => pj_R_to (G220, 115, [(0, .ref 171), (1, .int v1), (2, .int v2), (3, .int v3), (4, .int v4), (5, .int v5)], [.int (Int32.ofInt 0), .ref 171], 0, 0) 115 3 (fun _ => rfl) h) ?_
          refine pj_X_of (fun r h => pj_T_pf iG220 rfl rfl rfl h) ?_
          show pj_X _ _ (pj_wv G220 171 1 (.int (Int32.ofInt 0))) 118 [(0, .ref 171), (1, .int v1), (2, .int v2), (3, .int v3), (4, .int v4), (5, .int v5)] [] _
          obtain ⟨G234, hG234⟩ : ∃ H, H = pj_wv G220 171 1 (.int (Int32.ofInt 0)) := ⟨_, rfl⟩
          have iG234 : pj_Inv G234 := by rw [hG234]; exact pj_Inv_wi iG220 (ci := 12) rfl (fun q hq => by cases hq; exact ⟨by show (0 : Int) ≤ _; omega, by show _ ≤ (24 : Int); omega⟩)
          have kG234 : pj_kpt kc_231tx G0 G234 := by rw [hG234]; exact pj_kpt_v kG220 rfl
          rw [← hG234]
          rw [pj_nm_e]
          refine pj_X_of (fun r h => pj_R_to (G234, 122, [(0, .ref 171), (1, .int v1), (2, .int v2), (3, .int v3), (4, .int v4), (5, .int v5)], [.ref 171, .int v5, .ref 171], 0, 0) 122 4 (fun _ => rfl) h) ?_
          refine pj_X_of (fun r h => pj_T_gi iG234 rfl rfl h) ?_
          show pj_X _ _ G234 125 [(0, .ref 171), (1, .int v1), (2, .int v2), (3, .int v3), (4, .int v4), (5, .int v5)] [.int (pj_fi G234 171 39), .int v5, .ref 171] _
          rw [← hy229, pj_nm_e]
          refine pj_X_eqi (show pj_fi G234 171 39 = y229 from by rw [hG234, pj_fi_wv_ne _ _ _ _ _ _ (by decide)]; exact hy229.symm) ?_
          cases b235 : pj_c1 .ge v5 y229 with
          | true =>
            rw [pj_cT]
            have ub235 := pj_u_geT b235
            refine pj_X_of (fun r h => pj_R_icT 132 rfl rfl b235 h) ?_
            refine pj_X_of (fun r h => pj_R_to (G234, 133, [(0, .ref 171), (1, .int v1), (2, .int v2), (3, .int v3), (4, .int v4), (5, .int v5)], [.int (Int32.ofInt 0), .ref 171], 0, 0) 133 2 (fun _ => rfl) h) ?_
            have q236 : (pj_fi G234 171 30).toInt = y227.toInt := by rw [show pj_fi G234 171 30 = y227 from by rw [hG234, pj_fi_wv_ne _ _ _ _ _ _ (by decide)]; exact hy227.symm]
            have q237 : (pj_fi G234 171 1).toInt = (Int32.ofInt 0).toInt := by rw [show pj_fi G234 171 1 = Int32.ofInt 0 from by rw [hG234]; exact pj_fi_wi iG220.1 (ci := 12) rfl _]
            have q238 : (pj_fi G234 171 39).toInt = y229.toInt := by rw [show pj_fi G234 171 39 = y229 from by rw [hG234, pj_fi_wv_ne _ _ _ _ _ _ (by decide)]; exact hy229.symm]
            have q239 : (pj_fi G234 171 17).toInt = y230.toInt := by rw [show pj_fi G234 171 17 = y230 from by rw [hG234, pj_fi_wv_ne _ _ _ _ _ _ (by decide)]; exact hy230.symm]
            have q240 : (pj_fi G234 171 18).toInt = y231.toInt := by rw [show pj_fi G234 171 18 = y231 from by rw [hG234, pj_fi_wv_ne _ _ _ _ _ _ (by decide)]; exact hy231.symm]
            have q241 : (pj_fi G234 171 16).toInt = y232.toInt := by rw [show pj_fi G234 171 16 = y232 from by rw [hG234, pj_fi_wv_ne _ _ _ _ _ _ (by decide)]; exact hy232.symm]
            refine pj_X_ca (vs := [.int (Int32.ofInt 0)]) rfl (fun _ => rfl) ⟨Nat.le_of_ble_eq_true rfl, Nat.le_of_ble_eq_true rfl, rfl⟩ ⟨rfl, rfl⟩ (pj_Y_up (by decide) (ct_172x G234 iG234 (Int32.ofInt 0) ⟨by omega, by omega⟩)) ?_
            rintro _ _ ⟨y242, rfl, rfl, ry242, ey242, fy242⟩
            rw [← fy242, pj_nm_e]
            show pj_X _ _ G234 136 [(0, .ref 171), (1, .int v1), (2, .int v2), (3, .int v3), (4, .int v4), (5, .int v5)] [.int y242, .ref 171] _
            refine pj_X_of (fun r h => pj_R_to (G234, 137, [(0, .ref 171), (1, .int v1), (2, .int v2), (3, .int v3), (4, .int v4), (5, .int v5)], [.long y242.toInt64, .ref 171], 0, 0) 137 2 (fun _ => rfl) h) ?_
            have q243 : (pj_fi G234 171 30).toInt = y227.toInt := by rw [show pj_fi G234 171 30 = y227 from by rw [hG234, pj_fi_wv_ne _ _ _ _ _ _ (by decide)]; exact hy227.symm]
            have q244 : (pj_fi G234 171 1).toInt = (Int32.ofInt 0).toInt := by rw [show pj_fi G234 171 1 = Int32.ofInt 0 from by rw [hG234]; exact pj_fi_wi iG220.1 (ci := 12) rfl _]
            have q245 : (pj_fi G234 171 39).toInt = y229.toInt := by rw [show pj_fi G234 171 39 = y229 from by rw [hG234, pj_fi_wv_ne _ _ _ _ _ _ (by decide)]; exact hy229.symm]
            have q246 : (pj_fi G234 171 17).toInt = y230.toInt := by rw [show pj_fi G234 171 17 = y230 from by rw [hG234, pj_fi_wv_ne _ _ _ _ _ _ (by decide)]; exact hy230.symm]
            have q247 : (pj_fi G234 171 18).toInt = y231.toInt := by rw [show pj_fi G234 171 18 = y231 from by rw [hG234, pj_fi_wv_ne _ _ _ _ _ _ (by decide)]; exact hy231.symm]
            have q248 : (pj_fi G234 171 16).toInt = y232.toInt := by rw [show pj_fi G234 171 16 = y232 from by rw [hG234, pj_fi_wv_ne _ _ _ _ _ _ (by decide)]; exact hy232.symm]
            have lc249 : (y242.toInt64).toInt = y242.toInt := Int32.toInt_toInt64 _
            refine pj_X_ca (vs := [.ref 171, .long y242.toInt64]) rfl (fun _ => rfl) ⟨Nat.le_of_ble_eq_true rfl, Nat.le_of_ble_eq_true rfl, pj_T_rcv iG234 rfl⟩ ⟨rfl, rfl⟩ (pj_Y_up (by decide) (ct_174fx G234 iG234 y242.toInt64 (by omega))) ?_
            rintro _ G251 ⟨rfl, iG251, jG251, eG251, fy250⟩
            replace eG251 := eG251 _ rfl
            rw [← fy250, pj_nm_e]
            have kG251 : pj_kpt kc_231tx G0 G251 := pj_kpt_t kG234 (pj_kpt_s jG251 rfl)
            have q252 : (pj_fi G251 171 30).toInt = (pj_fi G234 171 30).toInt := by rw [jG251.1 (171, 30) (by decide)]
            have q253 : (pj_fi G251 171 39).toInt = (pj_fi G234 171 39).toInt := by rw [jG251.1 (171, 39) (by decide)]
            have q254 : (pj_fi G251 171 17).toInt = (pj_fi G234 171 17).toInt := by rw [jG251.1 (171, 17) (by decide)]
            have q255 : (pj_fi G251 171 18).toInt = (pj_fi G234 171 18).toInt := by rw [jG251.1 (171, 18) (by decide)]
            have q256 : (pj_fi G251 171 16).toInt = (pj_fi G234 171 16).toInt := by rw [jG251.1 (171, 16) (by decide)]
            obtain ⟨y257, hy257⟩ : ∃ z : Int32, z = pj_fi G251 171 30 := ⟨_, rfl⟩
            have ey257 : (pj_fi G251 171 30).toInt = y257.toInt := by rw [hy257]
            have ry257 : (0 : Int) ≤ y257.toInt ∧ y257.toInt ≤ 16 := by rw [hy257]; exact iG251.2.1 171 30 (0, 16) rfl
            obtain ⟨y258, hy258⟩ : ∃ z : Int32, z = pj_fi G251 171 1 := ⟨_, rfl⟩
            have ey258 : (pj_fi G251 171 1).toInt = y258.toInt := by rw [hy258]
            have ry258 : (0 : Int) ≤ y258.toInt ∧ y258.toInt ≤ 24 := by rw [hy258]; exact iG251.2.1 171 1 (0, 24) rfl
            obtain ⟨y259, hy259⟩ : ∃ z : Int32, z = pj_fi G251 171 39 := ⟨_, rfl⟩
            have ey259 : (pj_fi G251 171 39).toInt = y259.toInt := by rw [hy259]
            have ry259 : (0 : Int) ≤ y259.toInt ∧ y259.toInt ≤ 60 := by rw [hy259]; exact iG251.2.1 171 39 (0, 60) rfl
            obtain ⟨y260, hy260⟩ : ∃ z : Int32, z = pj_fi G251 171 17 := ⟨_, rfl⟩
            have ey260 : (pj_fi G251 171 17).toInt = y260.toInt := by rw [hy260]
            have ry260 : (0 : Int) ≤ y260.toInt ∧ y260.toInt ≤ 80 := by rw [hy260]; exact iG251.2.1 171 17 (0, 80) rfl
            obtain ⟨y261, hy261⟩ : ∃ z : Int32, z = pj_fi G251 171 18 := ⟨_, rfl⟩
            have ey261 : (pj_fi G251 171 18).toInt = y261.toInt := by rw [hy261]
            have ry261 : (0 : Int) ≤ y261.toInt ∧ y261.toInt ≤ 80 := by rw [hy261]; exact iG251.2.1 171 18 (0, 80) rfl
            obtain ⟨y262, hy262⟩ : ∃ z : Int32, z = pj_fi G251 171 16 := ⟨_, rfl⟩
            have ey262 : (pj_fi G251 171 16).toInt = y262.toInt := by rw [hy262]
            have ry262 : (0 : Int) ≤ y262.toInt ∧ y262.toInt ≤ 80 := by rw [hy262]; exact iG251.2.1 171 16 (0, 80) rfl
            show pj_X _ _ G251 140 [(0, .ref 171), (1, .int v1), (2, .int v2), (3, .int v3), (4, .int v4), (5, .int v5)] [] _
            refine pj_X_of (fun r h => pj_R_to (G251, 142, [(0, .ref 171), (1, .int v1), (2, .int v2), (3, .int v3), (4, .int v4), (5, .int v5)], [.ref 171, .ref 171], 0, 0) 142 3 (fun _ => rfl) h) ?_
            refine pj_X_of (fun r h => pj_T_gi iG251 rfl rfl h) ?_
            show pj_X _ _ G251 145 [(0, .ref 171), (1, .int v1), (2, .int v2), (3, .int v3), (4, .int v4), (5, .int v5)] [.int (pj_fi G251 171 35), .ref 171] _
            obtain ⟨y263, hy263⟩ : ∃ z : Int32, z = pj_fi G251 171 35 := ⟨_, rfl⟩
            refine pj_X_eqi hy263.symm ?_
            rw [← hy263, pj_nm_e]
            have ey263 : (pj_fi G251 171 35).toInt = y263.toInt := by rw [hy263]
            refine pj_X_of (fun r h => pj_R_to (G251, 146, [(0, .ref 171), (1, .int v1), (2, .int v2), (3, .int v3), (4, .int v4), (5, .int v5)], [.long y263.toInt64, .ref 171], 0, 0) 146 2 (fun _ => rfl) h) ?_
            have q264 : (pj_fi G251 171 30).toInt = y257.toInt := by rw [show pj_fi G251 171 30 = y257 from hy257.symm]
            have q265 : (pj_fi G251 171 1).toInt = y258.toInt := by rw [show pj_fi G251 171 1 = y258 from hy258.symm]
            have q266 : (pj_fi G251 171 39).toInt = y259.toInt := by rw [show pj_fi G251 171 39 = y259 from hy259.symm]
            have q267 : (pj_fi G251 171 17).toInt = y260.toInt := by rw [show pj_fi G251 171 17 = y260 from hy260.symm]
            have q268 : (pj_fi G251 171 18).toInt = y261.toInt := by rw [show pj_fi G251 171 18 = y261 from hy261.symm]
            have q269 : (pj_fi G251 171 16).toInt = y262.toInt := by rw [show pj_fi G251 171 16 = y262 from hy262.symm]
            have lc270 : (y263.toInt64).toInt = y263.toInt := Int32.toInt_toInt64 _
            refine pj_X_ca (vs := [.ref 171, .long y263.toInt64]) rfl (fun _ => rfl) ⟨Nat.le_of_ble_eq_true rfl, Nat.le_of_ble_eq_true rfl, pj_T_rcv iG251 rfl⟩ ⟨rfl, rfl⟩ (pj_Y_up (by decide) (ct_174fx G251 iG251 y263.toInt64 (by omega))) ?_
            rintro _ G272 ⟨rfl, iG272, jG272, eG272, fy271⟩
            replace eG272 := eG272 _ rfl
            rw [← fy271, pj_nm_e]
            have kG272 : pj_kpt kc_231tx G0 G272 := pj_kpt_t kG251 (pj_kpt_s jG272 rfl)
            have q273 : (pj_fi G272 171 30).toInt = (pj_fi G251 171 30).toInt := by rw [jG272.1 (171, 30) (by decide)]
            have q274 : (pj_fi G272 171 39).toInt = (pj_fi G251 171 39).toInt := by rw [jG272.1 (171, 39) (by decide)]
            have q275 : (pj_fi G272 171 17).toInt = (pj_fi G251 171 17).toInt := by rw [jG272.1 (171, 17) (by decide)]
            have q276 : (pj_fi G272 171 18).toInt = (pj_fi G251 171 18).toInt := by rw [jG272.1 (171, 18) (by decide)]
            have q277 : (pj_fi G272 171 16).toInt = (pj_fi G251 171 16).toInt := by rw [jG272.1 (171, 16) (by decide)]
            obtain ⟨y278, hy278⟩ : ∃ z : Int32, z = pj_fi G272 171 30 := ⟨_, rfl⟩
            have ey278 : (pj_fi G272 171 30).toInt = y278.toInt := by rw [hy278]
            have ry278 : (0 : Int) ≤ y278.toInt ∧ y278.toInt ≤ 16 := by rw [hy278]; exact iG272.2.1 171 30 (0, 16) rfl
            obtain ⟨y279, hy279⟩ : ∃ z : Int32, z = pj_fi G272 171 1 := ⟨_, rfl⟩
            have ey279 : (pj_fi G272 171 1).toInt = y279.toInt := by rw [hy279]
            have ry279 : (0 : Int) ≤ y279.toInt ∧ y279.toInt ≤ 24 := by rw [hy279]; exact iG272.2.1 171 1 (0, 24) rfl
            obtain ⟨y280, hy280⟩ : ∃ z : Int32, z = pj_fi G272 171 39 := ⟨_, rfl⟩
            have ey280 : (pj_fi G272 171 39).toInt = y280.toInt := by rw [hy280]
            have ry280 : (0 : Int) ≤ y280.toInt ∧ y280.toInt ≤ 60 := by rw [hy280]; exact iG272.2.1 171 39 (0, 60) rfl
            obtain ⟨y281, hy281⟩ : ∃ z : Int32, z = pj_fi G272 171 17 := ⟨_, rfl⟩
            have ey281 : (pj_fi G272 171 17).toInt = y281.toInt := by rw [hy281]
            have ry281 : (0 : Int) ≤ y281.toInt ∧ y281.toInt ≤ 80 := by rw [hy281]; exact iG272.2.1 171 17 (0, 80) rfl
            obtain ⟨y282, hy282⟩ : ∃ z : Int32, z = pj_fi G272 171 18 := ⟨_, rfl⟩
            have ey282 : (pj_fi G272 171 18).toInt = y282.toInt := by rw [hy282]
            have ry282 : (0 : Int) ≤ y282.toInt ∧ y282.toInt ≤ 80 := by rw [hy282]; exact iG272.2.1 171 18 (0, 80) rfl
            obtain ⟨y283, hy283⟩ : ∃ z : Int32, z = pj_fi G272 171 16 := ⟨_, rfl⟩
            have ey283 : (pj_fi G272 171 16).toInt = y283.toInt := by rw [hy283]
            have ry283 : (0 : Int) ≤ y283.toInt ∧ y283.toInt ≤ 80 := by rw [hy283]; exact iG272.2.1 171 16 (0, 80) rfl
            show pj_X _ _ G272 149 [(0, .ref 171), (1, .int v1), (2, .int v2), (3, .int v3), (4, .int v4), (5, .int v5)] [] _
            refine pj_X_of (fun r h => pj_R_to (G272, 151, [(0, .ref 171), (1, .int v1), (2, .int v2), (3, .int v3), (4, .int v4), (5, .int v5)], [.int v5], 0, 0) 151 2 (fun _ => rfl) h) ?_
            cases b284 : pj_c1 .le v5 0 with
            | true =>
              rw [pj_cT]
              have ub284 := pj_u0_leT b284
              refine pj_X_of (fun r h => pj_R_ifT 163 rfl rfl b284 h) ?_
              refine pj_X_of (fun r h => pj_R_to (G272, 164, [(0, .ref 171), (1, .int v1), (2, .int v2), (3, .int v3), (4, .int v4), (5, .int v5)], [.int (Int32.ofInt 0)], 0, 0) 164 2 (fun _ => rfl) h) ?_
              have q285 : (pj_fi G272 171 30).toInt = y278.toInt := by rw [show pj_fi G272 171 30 = y278 from hy278.symm]
              have q286 : (pj_fi G272 171 1).toInt = y279.toInt := by rw [show pj_fi G272 171 1 = y279 from hy279.symm]
              have q287 : (pj_fi G272 171 39).toInt = y280.toInt := by rw [show pj_fi G272 171 39 = y280 from hy280.symm]
              have q288 : (pj_fi G272 171 17).toInt = y281.toInt := by rw [show pj_fi G272 171 17 = y281 from hy281.symm]
              have q289 : (pj_fi G272 171 18).toInt = y282.toInt := by rw [show pj_fi G272 171 18 = y282 from hy282.symm]
              have q290 : (pj_fi G272 171 16).toInt = y283.toInt := by rw [show pj_fi G272 171 16 = y283 from hy283.symm]
              exact pj_X_rt rfl rfl ⟨_, rfl, iG272, kG272, pj_i32 _, by omega, rfl⟩
            | false =>
              rw [pj_cF]
              have ub284 := pj_u0_leF b284
              refine pj_X_of (fun r h => pj_R_ifF rfl b284 h) ?_
              refine pj_X_of (fun r h => pj_R_to (G272, 157, [(0, .ref 171), (1, .int v1), (2, .int v2), (3, .int v3), (4, .int v4), (5, .int v5)], [.int v5, .ref 171], 0, 0) 157 3 (fun _ => rfl) h) ?_
              have q291 : (pj_fi G272 171 30).toInt = y278.toInt := by rw [show pj_fi G272 171 30 = y278 from hy278.symm]
              have q292 : (pj_fi G272 171 1).toInt = y279.toInt := by rw [show pj_fi G272 171 1 = y279 from hy279.symm]
              have q293 : (pj_fi G272 171 39).toInt = y280.toInt := by rw [show pj_fi G272 171 39 = y280 from hy280.symm]
              have q294 : (pj_fi G272 171 17).toInt = y281.toInt := by rw [show pj_fi G272 171 17 = y281 from hy281.symm]
              have q295 : (pj_fi G272 171 18).toInt = y282.toInt := by rw [show pj_fi G272 171 18 = y282 from hy282.symm]
              have q296 : (pj_fi G272 171 16).toInt = y283.toInt := by rw [show pj_fi G272 171 16 = y283 from hy283.symm]
              refine pj_X_ca (vs := [.ref 171, .int v5]) rfl (fun _ => rfl) ⟨Nat.le_of_ble_eq_true rfl, Nat.le_of_ble_eq_true rfl, pj_T_rcv iG272 rfl⟩ ⟨rfl, rfl⟩ (pj_Y_up (by decide) (ct_215x G272 iG272 v5 (by omega))) ?_
              rintro _ G298 ⟨y297, rfl, iG298, jG298, ry297, ey297, fy297⟩
              rw [← fy297, pj_bd_e]
              have kG298 : pj_kpt kc_231tx G0 G298 := pj_kpt_t kG272 (pj_kpt_s jG298 rfl)
              have q299 : (pj_fi G298 171 1).toInt = (pj_fi G272 171 1).toInt := by rw [jG298.1 (171, 1) (by decide)]
              have q300 : (pj_fi G298 171 39).toInt = (pj_fi G272 171 39).toInt := by rw [jG298.1 (171, 39) (by decide)]
              have q301 : (pj_fi G298 171 17).toInt = (pj_fi G272 171 17).toInt := by rw [jG298.1 (171, 17) (by decide)]
              have q302 : (pj_fi G298 171 18).toInt = (pj_fi G272 171 18).toInt := by rw [jG298.1 (171, 18) (by decide)]
              have q303 : (pj_fi G298 171 16).toInt = (pj_fi G272 171 16).toInt := by rw [jG298.1 (171, 16) (by decide)]
              obtain ⟨y304, hy304⟩ : ∃ z : Int32, z = pj_fi G298 171 30 := ⟨_, rfl⟩
              have ey304 : (pj_fi G298 171 30).toInt = y304.toInt := by rw [hy304]
              have ry304 : (0 : Int) ≤ y304.toInt ∧ y304.toInt ≤ 16 := by rw [hy304]; exact iG298.2.1 171 30 (0, 16) rfl
              obtain ⟨y305, hy305⟩ : ∃ z : Int32, z = pj_fi G298 171 1 := ⟨_, rfl⟩
              have ey305 : (pj_fi G298 171 1).toInt = y305.toInt := by rw [hy305]
              have ry305 : (0 : Int) ≤ y305.toInt ∧ y305.toInt ≤ 24 := by rw [hy305]; exact iG298.2.1 171 1 (0, 24) rfl
              obtain ⟨y306, hy306⟩ : ∃ z : Int32, z = pj_fi G298 171 39 := ⟨_, rfl⟩
              have ey306 : (pj_fi G298 171 39).toInt = y306.toInt := by rw [hy306]
              have ry306 : (0 : Int) ≤ y306.toInt ∧ y306.toInt ≤ 60 := by rw [hy306]; exact iG298.2.1 171 39 (0, 60) rfl
              obtain ⟨y307, hy307⟩ : ∃ z : Int32, z = pj_fi G298 171 17 := ⟨_, rfl⟩
              have ey307 : (pj_fi G298 171 17).toInt = y307.toInt := by rw [hy307]
              have ry307 : (0 : Int) ≤ y307.toInt ∧ y307.toInt ≤ 80 := by rw [hy307]; exact iG298.2.1 171 17 (0, 80) rfl
              obtain ⟨y308, hy308⟩ : ∃ z : Int32, z = pj_fi G298 171 18 := ⟨_, rfl⟩
              have ey308 : (pj_fi G298 171 18).toInt = y308.toInt := by rw [hy308]
              have ry308 : (0 : Int) ≤ y308.toInt ∧ y308.toInt ≤ 80 := by rw [hy308]; exact iG298.2.1 171 18 (0, 80) rfl
              obtain ⟨y309, hy309⟩ : ∃ z : Int32, z = pj_fi G298 171 16 := ⟨_, rfl⟩
              have ey309 : (pj_fi G298 171 16).toInt = y309.toInt := by rw [hy309]
              have ry309 : (0 : Int) ≤ y309.toInt ∧ y309.toInt ≤ 80 := by rw [hy309]; exact iG298.2.1 171 16 (0, 80) rfl
              show pj_X _ _ G298 160 [(0, .ref 171), (1, .int v1), (2, .int v2), (3, .int v3), (4, .int v4), (5, .int v5)] [.int y297] _
              refine pj_X_of (fun r h => pj_R_to (G298, 164, [(0, .ref 171), (1, .int v1), (2, .int v2), (3, .int v3), (4, .int v4), (5, .int v5)], [.int y297], 0, 0) 164 2 (fun _ => rfl) h) ?_
              have q310 : (pj_fi G298 171 30).toInt = y304.toInt := by rw [show pj_fi G298 171 30 = y304 from hy304.symm]
              have q311 : (pj_fi G298 171 1).toInt = y305.toInt := by rw [show pj_fi G298 171 1 = y305 from hy305.symm]
              have q312 : (pj_fi G298 171 39).toInt = y306.toInt := by rw [show pj_fi G298 171 39 = y306 from hy306.symm]
              have q313 : (pj_fi G298 171 17).toInt = y307.toInt := by rw [show pj_fi G298 171 17 = y307 from hy307.symm]
              have q314 : (pj_fi G298 171 18).toInt = y308.toInt := by rw [show pj_fi G298 171 18 = y308 from hy308.symm]
              have q315 : (pj_fi G298 171 16).toInt = y309.toInt := by rw [show pj_fi G298 171 16 = y309 from hy309.symm]
              exact pj_X_rt rfl rfl ⟨_, rfl, iG298, kG298, pj_i32 _, by omega, rfl⟩
          | false =>
            rw [pj_cF]
            have ub235 := pj_u_geF b235
            refine pj_X_of (fun r h => pj_R_icF rfl b235 h) ?_
            refine pj_X_of (fun r h => pj_R_to (G234, 133, [(0, .ref 171), (1, .int v1), (2, .int v2), (3, .int v3), (4, .int v4), (5, .int v5)], [.int (Int32.ofInt 1), .ref 171], 0, 0) 133 3 (fun _ => rfl) h) ?_
            have q316 : (pj_fi G234 171 30).toInt = y227.toInt := by rw [show pj_fi G234 171 30 = y227 from by rw [hG234, pj_fi_wv_ne _ _ _ _ _ _ (by decide)]; exact hy227.symm]
            have q317 : (pj_fi G234 171 1).toInt = (Int32.ofInt 0).toInt := by rw [show pj_fi G234 171 1 = Int32.ofInt 0 from by rw [hG234]; exact pj_fi_wi iG220.1 (ci := 12) rfl _]
            have q318 : (pj_fi G234 171 39).toInt = y229.toInt := by rw [show pj_fi G234 171 39 = y229 from by rw [hG234, pj_fi_wv_ne _ _ _ _ _ _ (by decide)]; exact hy229.symm]
            have q319 : (pj_fi G234 171 17).toInt = y230.toInt := by rw [show pj_fi G234 171 17 = y230 from by rw [hG234, pj_fi_wv_ne _ _ _ _ _ _ (by decide)]; exact hy230.symm]
            have q320 : (pj_fi G234 171 18).toInt = y231.toInt := by rw [show pj_fi G234 171 18 = y231 from by rw [hG234, pj_fi_wv_ne _ _ _ _ _ _ (by decide)]; exact hy231.symm]
            have q321 : (pj_fi G234 171 16).toInt = y232.toInt := by rw [show pj_fi G234 171 16 = y232 from by rw [hG234, pj_fi_wv_ne _ _ _ _ _ _ (by decide)]; exact hy232.symm]
            refine pj_X_ca (vs := [.int (Int32.ofInt 1)]) rfl (fun _ => rfl) ⟨Nat.le_of_ble_eq_true rfl, Nat.le_of_ble_eq_true rfl, rfl⟩ ⟨rfl, rfl⟩ (pj_Y_up (by decide) (ct_172x G234 iG234 (Int32.ofInt 1) ⟨by omega, by omega⟩)) ?_
            rintro _ _ ⟨y322, rfl, rfl, ry322, ey322, fy322⟩
            rw [← fy322, pj_nm_e]
            show pj_X _ _ G234 136 [(0, .ref 171), (1, .int v1), (2, .int v2), (3, .int v3), (4, .int v4), (5, .int v5)] [.int y322, .ref 171] _
            refine pj_X_of (fun r h => pj_R_to (G234, 137, [(0, .ref 171), (1, .int v1), (2, .int v2), (3, .int v3), (4, .int v4), (5, .int v5)], [.long y322.toInt64, .ref 171], 0, 0) 137 2 (fun _ => rfl) h) ?_
            have q323 : (pj_fi G234 171 30).toInt = y227.toInt := by rw [show pj_fi G234 171 30 = y227 from by rw [hG234, pj_fi_wv_ne _ _ _ _ _ _ (by decide)]; exact hy227.symm]
            have q324 : (pj_fi G234 171 1).toInt = (Int32.ofInt 0).toInt := by rw [show pj_fi G234 171 1 = Int32.ofInt 0 from by rw [hG234]; exact pj_fi_wi iG220.1 (ci := 12) rfl _]
            have q325 : (pj_fi G234 171 39).toInt = y229.toInt := by rw [show pj_fi G234 171 39 = y229 from by rw [hG234, pj_fi_wv_ne _ _ _ _ _ _ (by decide)]; exact hy229.symm]
            have q326 : (pj_fi G234 171 17).toInt = y230.toInt := by rw [show pj_fi G234 171 17 = y230 from by rw [hG234, pj_fi_wv_ne _ _ _ _ _ _ (by decide)]; exact hy230.symm]
            have q327 : (pj_fi G234 171 18).toInt = y231.toInt := by rw [show pj_fi G234 171 18 = y231 from by rw [hG234, pj_fi_wv_ne _ _ _ _ _ _ (by decide)]; exact hy231.symm]
            have q328 : (pj_fi G234 171 16).toInt = y232.toInt := by rw [show pj_fi G234 171 16 = y232 from by rw [hG234, pj_fi_wv_ne _ _ _ _ _ _ (by decide)]; exact hy232.symm]
            have lc329 : (y322.toInt64).toInt = y322.toInt := Int32.toInt_toInt64 _
            refine pj_X_ca (vs := [.ref 171, .long y322.toInt64]) rfl (fun _ => rfl) ⟨Nat.le_of_ble_eq_true rfl, Nat.le_of_ble_eq_true rfl, pj_T_rcv iG234 rfl⟩ ⟨rfl, rfl⟩ (pj_Y_up (by decide) (ct_174fx G234 iG234 y322.toInt64 (by omega))) ?_
            rintro _ G331 ⟨rfl, iG331, jG331, eG331, fy330⟩
            replace eG331 := eG331 _ rfl
            rw [← fy330, pj_nm_e]
            have kG331 : pj_kpt kc_231tx G0 G331 := pj_kpt_t kG234 (pj_kpt_s jG331 rfl)
            have q332 : (pj_fi G331 171 30).toInt = (pj_fi G234 171 30).toInt := by rw [jG331.1 (171, 30) (by decide)]
            have q333 : (pj_fi G331 171 39).toInt = (pj_fi G234 171 39).toInt := by rw [jG331.1 (171, 39) (by decide)]
            have q334 : (pj_fi G331 171 17).toInt = (pj_fi G234 171 17).toInt := by rw [jG331.1 (171, 17) (by decide)]
            have q335 : (pj_fi G331 171 18).toInt = (pj_fi G234 171 18).toInt := by rw [jG331.1 (171, 18) (by decide)]
            have q336 : (pj_fi G331 171 16).toInt = (pj_fi G234 171 16).toInt := by rw [jG331.1 (171, 16) (by decide)]
            obtain ⟨y337, hy337⟩ : ∃ z : Int32, z = pj_fi G331 171 30 := ⟨_, rfl⟩
            have ey337 : (pj_fi G331 171 30).toInt = y337.toInt := by rw [hy337]
            have ry337 : (0 : Int) ≤ y337.toInt ∧ y337.toInt ≤ 16 := by rw [hy337]; exact iG331.2.1 171 30 (0, 16) rfl
            obtain ⟨y338, hy338⟩ : ∃ z : Int32, z = pj_fi G331 171 1 := ⟨_, rfl⟩
            have ey338 : (pj_fi G331 171 1).toInt = y338.toInt := by rw [hy338]
            have ry338 : (0 : Int) ≤ y338.toInt ∧ y338.toInt ≤ 24 := by rw [hy338]; exact iG331.2.1 171 1 (0, 24) rfl
            obtain ⟨y339, hy339⟩ : ∃ z : Int32, z = pj_fi G331 171 39 := ⟨_, rfl⟩
            have ey339 : (pj_fi G331 171 39).toInt = y339.toInt := by rw [hy339]
            have ry339 : (0 : Int) ≤ y339.toInt ∧ y339.toInt ≤ 60 := by rw [hy339]; exact iG331.2.1 171 39 (0, 60) rfl
            obtain ⟨y340, hy340⟩ : ∃ z : Int32, z = pj_fi G331 171 17 := ⟨_, rfl⟩
            have ey340 : (pj_fi G331 171 17).toInt = y340.toInt := by rw [hy340]
            have ry340 : (0 : Int) ≤ y340.toInt ∧ y340.toInt ≤ 80 := by rw [hy340]; exact iG331.2.1 171 17 (0, 80) rfl
            obtain ⟨y341, hy341⟩ : ∃ z : Int32, z = pj_fi G331 171 18 := ⟨_, rfl⟩
            have ey341 : (pj_fi G331 171 18).toInt = y341.toInt := by rw [hy341]
            have ry341 : (0 : Int) ≤ y341.toInt ∧ y341.toInt ≤ 80 := by rw [hy341]; exact iG331.2.1 171 18 (0, 80) rfl
            obtain ⟨y342, hy342⟩ : ∃ z : Int32, z = pj_fi G331 171 16 := ⟨_, rfl⟩
            have ey342 : (pj_fi G331 171 16).toInt = y342.toInt := by rw [hy342]
            have ry342 : (0 : Int) ≤ y342.toInt ∧ y342.toInt ≤ 80 := by rw [hy342]; exact iG331.2.1 171 16 (0, 80) rfl
            show pj_X _ _ G331 140 [(0, .ref 171), (1, .int v1), (2, .int v2), (3, .int v3), (4, .int v4), (5, .int v5)] [] _
            refine pj_X_of (fun r h => pj_R_to (G331, 142, [(0, .ref 171), (1, .int v1), (2, .int v2), (3, .int v3), (4, .int v4), (5, .int v5)], [.ref 171, .ref 171], 0, 0) 142 3 (fun _ => rfl) h) ?_
            refine pj_X_of (fun r h => pj_T_gi iG331 rfl rfl h) ?_
            show pj_X _ _ G331 145 [(0, .ref 171), (1, .int v1), (2, .int v2), (3, .int v3), (4, .int v4), (5, .int v5)] [.int (pj_fi G331 171 35), .ref 171] _
            obtain ⟨y343, hy343⟩ : ∃ z : Int32, z = pj_fi G331 171 35 := ⟨_, rfl⟩
            refine pj_X_eqi hy343.symm ?_
            rw [← hy343, pj_nm_e]
            have ey343 : (pj_fi G331 171 35).toInt = y343.toInt := by rw [hy343]
            refine pj_X_of (fun r h => pj_R_to (G331, 146, [(0, .ref 171), (1, .int v1), (2, .int v2), (3, .int v3), (4, .int v4), (5, .int v5)], [.long y343.toInt64, .ref 171], 0, 0) 146 2 (fun _ => rfl) h) ?_
            have q344 : (pj_fi G331 171 30).toInt = y337.toInt := by rw [show pj_fi G331 171 30 = y337 from hy337.symm]
            have q345 : (pj_fi G331 171 1).toInt = y338.toInt := by rw [show pj_fi G331 171 1 = y338 from hy338.symm]
            have q346 : (pj_fi G331 171 39).toInt = y339.toInt := by rw [show pj_fi G331 171 39 = y339 from hy339.symm]
            have q347 : (pj_fi G331 171 17).toInt = y340.toInt := by rw [show pj_fi G331 171 17 = y340 from hy340.symm]
            have q348 : (pj_fi G331 171 18).toInt = y341.toInt := by rw [show pj_fi G331 171 18 = y341 from hy341.symm]
            have q349 : (pj_fi G331 171 16).toInt = y342.toInt := by rw [show pj_fi G331 171 16 = y342 from hy342.symm]
            have lc350 : (y343.toInt64).toInt = y343.toInt := Int32.toInt_toInt64 _
            refine pj_X_ca (vs := [.ref 171, .long y343.toInt64]) rfl (fun _ => rfl) ⟨Nat.le_of_ble_eq_true rfl, Nat.le_of_ble_eq_true rfl, pj_T_rcv iG331 rfl⟩ ⟨rfl, rfl⟩ (pj_Y_up (by decide) (ct_174fx G331 iG331 y343.toInt64 (by omega))) ?_
            rintro _ G352 ⟨rfl, iG352, jG352, eG352, fy351⟩
            replace eG352 := eG352 _ rfl
            rw [← fy351, pj_nm_e]
            have kG352 : pj_kpt kc_231tx G0 G352 := pj_kpt_t kG331 (pj_kpt_s jG352 rfl)
            have q353 : (pj_fi G352 171 30).toInt = (pj_fi G331 171 30).toInt := by rw [jG352.1 (171, 30) (by decide)]
            have q354 : (pj_fi G352 171 39).toInt = (pj_fi G331 171 39).toInt := by rw [jG352.1 (171, 39) (by decide)]
            have q355 : (pj_fi G352 171 17).toInt = (pj_fi G331 171 17).toInt := by rw [jG352.1 (171, 17) (by decide)]
            have q356 : (pj_fi G352 171 18).toInt = (pj_fi G331 171 18).toInt := by rw [jG352.1 (171, 18) (by decide)]
            have q357 : (pj_fi G352 171 16).toInt = (pj_fi G331 171 16).toInt := by rw [jG352.1 (171, 16) (by decide)]
            obtain ⟨y358, hy358⟩ : ∃ z : Int32, z = pj_fi G352 171 30 := ⟨_, rfl⟩
            have ey358 : (pj_fi G352 171 30).toInt = y358.toInt := by rw [hy358]
            have ry358 : (0 : Int) ≤ y358.toInt ∧ y358.toInt ≤ 16 := by rw [hy358]; exact iG352.2.1 171 30 (0, 16) rfl
            obtain ⟨y359, hy359⟩ : ∃ z : Int32, z = pj_fi G352 171 1 := ⟨_, rfl⟩
            have ey359 : (pj_fi G352 171 1).toInt = y359.toInt := by rw [hy359]
            have ry359 : (0 : Int) ≤ y359.toInt ∧ y359.toInt ≤ 24 := by rw [hy359]; exact iG352.2.1 171 1 (0, 24) rfl
            obtain ⟨y360, hy360⟩ : ∃ z : Int32, z = pj_fi G352 171 39 := ⟨_, rfl⟩
            have ey360 : (pj_fi G352 171 39).toInt = y360.toInt := by rw [hy360]
            have ry360 : (0 : Int) ≤ y360.toInt ∧ y360.toInt ≤ 60 := by rw [hy360]; exact iG352.2.1 171 39 (0, 60) rfl
            obtain ⟨y361, hy361⟩ : ∃ z : Int32, z = pj_fi G352 171 17 := ⟨_, rfl⟩
            have ey361 : (pj_fi G352 171 17).toInt = y361.toInt := by rw [hy361]
            have ry361 : (0 : Int) ≤ y361.toInt ∧ y361.toInt ≤ 80 := by rw [hy361]; exact iG352.2.1 171 17 (0, 80) rfl
            obtain ⟨y362, hy362⟩ : ∃ z : Int32, z = pj_fi G352 171 18 := ⟨_, rfl⟩
            have ey362 : (pj_fi G352 171 18).toInt = y362.toInt := by rw [hy362]
            have ry362 : (0 : Int) ≤ y362.toInt ∧ y362.toInt ≤ 80 := by rw [hy362]; exact iG352.2.1 171 18 (0, 80) rfl
            obtain ⟨y363, hy363⟩ : ∃ z : Int32, z = pj_fi G352 171 16 := ⟨_, rfl⟩
            have ey363 : (pj_fi G352 171 16).toInt = y363.toInt := by rw [hy363]
            have ry363 : (0 : Int) ≤ y363.toInt ∧ y363.toInt ≤ 80 := by rw [hy363]; exact iG352.2.1 171 16 (0, 80) rfl
            show pj_X _ _ G352 149 [(0, .ref 171), (1, .int v1), (2, .int v2), (3, .int v3), (4, .int v4), (5, .int v5)] [] _
            refine pj_X_of (fun r h => pj_R_to (G352, 151, [(0, .ref 171), (1, .int v1), (2, .int v2), (3, .int v3), (4, .int v4), (5, .int v5)], [.int v5], 0, 0) 151 2 (fun _ => rfl) h) ?_
            cases b364 : pj_c1 .le v5 0 with
            | true =>
              rw [pj_cT]
              have ub364 := pj_u0_leT b364
              refine pj_X_of (fun r h => pj_R_ifT 163 rfl rfl b364 h) ?_
              refine pj_X_of (fun r h => pj_R_to (G352, 164, [(0, .ref 171), (1, .int v1), (2, .int v2), (3, .int v3), (4, .int v4), (5, .int v5)], [.int (Int32.ofInt 0)], 0, 0) 164 2 (fun _ => rfl) h) ?_
              have q365 : (pj_fi G352 171 30).toInt = y358.toInt := by rw [show pj_fi G352 171 30 = y358 from hy358.symm]
              have q366 : (pj_fi G352 171 1).toInt = y359.toInt := by rw [show pj_fi G352 171 1 = y359 from hy359.symm]
              have q367 : (pj_fi G352 171 39).toInt = y360.toInt := by rw [show pj_fi G352 171 39 = y360 from hy360.symm]
              have q368 : (pj_fi G352 171 17).toInt = y361.toInt := by rw [show pj_fi G352 171 17 = y361 from hy361.symm]
              have q369 : (pj_fi G352 171 18).toInt = y362.toInt := by rw [show pj_fi G352 171 18 = y362 from hy362.symm]
              have q370 : (pj_fi G352 171 16).toInt = y363.toInt := by rw [show pj_fi G352 171 16 = y363 from hy363.symm]
              exact pj_X_rt rfl rfl ⟨_, rfl, iG352, kG352, pj_i32 _, by omega, rfl⟩
            | false =>
              rw [pj_cF]
              have ub364 := pj_u0_leF b364
              refine pj_X_of (fun r h => pj_R_ifF rfl b364 h) ?_
              refine pj_X_of (fun r h => pj_R_to (G352, 157, [(0, .ref 171), (1, .int v1), (2, .int v2), (3, .int v3), (4, .int v4), (5, .int v5)], [.int v5, .ref 171], 0, 0) 157 3 (fun _ => rfl) h) ?_
              have q371 : (pj_fi G352 171 30).toInt = y358.toInt := by rw [show pj_fi G352 171 30 = y358 from hy358.symm]
              have q372 : (pj_fi G352 171 1).toInt = y359.toInt := by rw [show pj_fi G352 171 1 = y359 from hy359.symm]
              have q373 : (pj_fi G352 171 39).toInt = y360.toInt := by rw [show pj_fi G352 171 39 = y360 from hy360.symm]
              have q374 : (pj_fi G352 171 17).toInt = y361.toInt := by rw [show pj_fi G352 171 17 = y361 from hy361.symm]
              have q375 : (pj_fi G352 171 18).toInt = y362.toInt := by rw [show pj_fi G352 171 18 = y362 from hy362.symm]
              have q376 : (pj_fi G352 171 16).toInt = y363.toInt := by rw [show pj_fi G352 171 16 = y363 from hy363.symm]
              refine pj_X_ca (vs := [.ref 171, .int v5]) rfl (fun _ => rfl) ⟨Nat.le_of_ble_eq_true rfl, Nat.le_of_ble_eq_true rfl, pj_T_rcv iG352 rfl⟩ ⟨rfl, rfl⟩ (pj_Y_up (by decide) (ct_215x G352 iG352 v5 (by omega))) ?_
              rintro _ G378 ⟨y377, rfl, iG378, jG378, ry377, ey377, fy377⟩
              rw [← fy377, pj_bd_e]
              have kG378 : pj_kpt kc_231tx G0 G378 := pj_kpt_t kG352 (pj_kpt_s jG378 rfl)
              have q379 : (pj_fi G378 171 1).toInt = (pj_fi G352 171 1).toInt := by rw [jG378.1 (171, 1) (by decide)]
              have q380 : (pj_fi G378 171 39).toInt = (pj_fi G352 171 39).toInt := by rw [jG378.1 (171, 39) (by decide)]
              have q381 : (pj_fi G378 171 17).toInt = (pj_fi G352 171 17).toInt := by rw [jG378.1 (171, 17) (by decide)]
              have q382 : (pj_fi G378 171 18).toInt = (pj_fi G352 171 18).toInt := by rw [jG378.1 (171, 18) (by decide)]
              have q383 : (pj_fi G378 171 16).toInt = (pj_fi G352 171 16).toInt := by rw [jG378.1 (171, 16) (by decide)]
              obtain ⟨y384, hy384⟩ : ∃ z : Int32, z = pj_fi G378 171 30 := ⟨_, rfl⟩
              have ey384 : (pj_fi G378 171 30).toInt = y384.toInt := by rw [hy384]
              have ry384 : (0 : Int) ≤ y384.toInt ∧ y384.toInt ≤ 16 := by rw [hy384]; exact iG378.2.1 171 30 (0, 16) rfl
              obtain ⟨y385, hy385⟩ : ∃ z : Int32, z = pj_fi G378 171 1 := ⟨_, rfl⟩
              have ey385 : (pj_fi G378 171 1).toInt = y385.toInt := by rw [hy385]
              have ry385 : (0 : Int) ≤ y385.toInt ∧ y385.toInt ≤ 24 := by rw [hy385]; exact iG378.2.1 171 1 (0, 24) rfl
              obtain ⟨y386, hy386⟩ : ∃ z : Int32, z = pj_fi G378 171 39 := ⟨_, rfl⟩
              have ey386 : (pj_fi G378 171 39).toInt = y386.toInt := by rw [hy386]
              have ry386 : (0 : Int) ≤ y386.toInt ∧ y386.toInt ≤ 60 := by rw [hy386]; exact iG378.2.1 171 39 (0, 60) rfl
              obtain ⟨y387, hy387⟩ : ∃ z : Int32, z = pj_fi G378 171 17 := ⟨_, rfl⟩
              have ey387 : (pj_fi G378 171 17).toInt = y387.toInt := by rw [hy387]
              have ry387 : (0 : Int) ≤ y387.toInt ∧ y387.toInt ≤ 80 := by rw [hy387]; exact iG378.2.1 171 17 (0, 80) rfl
              obtain ⟨y388, hy388⟩ : ∃ z : Int32, z = pj_fi G378 171 18 := ⟨_, rfl⟩
              have ey388 : (pj_fi G378 171 18).toInt = y388.toInt := by rw [hy388]
              have ry388 : (0 : Int) ≤ y388.toInt ∧ y388.toInt ≤ 80 := by rw [hy388]; exact iG378.2.1 171 18 (0, 80) rfl
              obtain ⟨y389, hy389⟩ : ∃ z : Int32, z = pj_fi G378 171 16 := ⟨_, rfl⟩
              have ey389 : (pj_fi G378 171 16).toInt = y389.toInt := by rw [hy389]
              have ry389 : (0 : Int) ≤ y389.toInt ∧ y389.toInt ≤ 80 := by rw [hy389]; exact iG378.2.1 171 16 (0, 80) rfl
              show pj_X _ _ G378 160 [(0, .ref 171), (1, .int v1), (2, .int v2), (3, .int v3), (4, .int v4), (5, .int v5)] [.int y377] _
              refine pj_X_of (fun r h => pj_R_to (G378, 164, [(0, .ref 171), (1, .int v1), (2, .int v2), (3, .int v3), (4, .int v4), (5, .int v5)], [.int y377], 0, 0) 164 2 (fun _ => rfl) h) ?_
              have q390 : (pj_fi G378 171 30).toInt = y384.toInt := by rw [show pj_fi G378 171 30 = y384 from hy384.symm]
              have q391 : (pj_fi G378 171 1).toInt = y385.toInt := by rw [show pj_fi G378 171 1 = y385 from hy385.symm]
              have q392 : (pj_fi G378 171 39).toInt = y386.toInt := by rw [show pj_fi G378 171 39 = y386 from hy386.symm]
              have q393 : (pj_fi G378 171 17).toInt = y387.toInt := by rw [show pj_fi G378 171 17 = y387 from hy387.symm]
              have q394 : (pj_fi G378 171 18).toInt = y388.toInt := by rw [show pj_fi G378 171 18 = y388 from hy388.symm]
              have q395 : (pj_fi G378 171 16).toInt = y389.toInt := by rw [show pj_fi G378 171 16 = y389 from hy389.symm]
              exact pj_X_rt rfl rfl ⟨_, rfl, iG378, kG378, pj_i32 _, by omega, rfl⟩
        | false =>
          rw [pj_cF]
          have ub233 := pj_u0_eqF b233
          refine pj_X_of (fun r h => pj_R_ifF rfl b233 h) ?_
          refine pj_X_of (fun r h => pj_R_to (G220, 110, [(5, .int (v5 + Int32.ofInt 1)), (0, .ref 171), (1, .int v1), (2, .int v2), (3, .int v3), (4, .int v4)], [], 0, 0) 110 2 (fun _ => rfl) h) ?_
          obtain ⟨z396, hz396⟩ : ∃ z : Int32, z = v5 + Int32.ofInt 1 := ⟨_, rfl⟩
          rw [← hz396]
          rw [pj_nm_e]
          have fz396_0 : z396.toInt = v5.toInt + (Int32.ofInt 1).toInt := by rw [hz396]; exact pj_addI (by have := pj_i32 v5; have := pj_i32 (Int32.ofInt 1); omega) (by have := pj_i32 v5; have := pj_i32 (Int32.ofInt 1); omega)
          refine pj_X_of (fun r h => pj_R_to (G220, 89, [(5, .int z396), (0, .ref 171), (1, .int v1), (2, .int v2), (3, .int v3), (4, .int v4)], [], 0, 0) 89 2 (fun _ => rfl) h) ?_
          have q397 : (pj_fi G220 171 30).toInt = y227.toInt := by rw [show pj_fi G220 171 30 = y227 from hy227.symm]
          have q398 : (pj_fi G220 171 1).toInt = y228.toInt := by rw [show pj_fi G220 171 1 = y228 from hy228.symm]
          have q399 : (pj_fi G220 171 39).toInt = y229.toInt := by rw [show pj_fi G220 171 39 = y229 from hy229.symm]
          have q400 : (pj_fi G220 171 17).toInt = y230.toInt := by rw [show pj_fi G220 171 17 = y230 from hy230.symm]
          have q401 : (pj_fi G220 171 18).toInt = y231.toInt := by rw [show pj_fi G220 171 18 = y231 from hy231.symm]
          have q402 : (pj_fi G220 171 16).toInt = y232.toInt := by rw [show pj_fi G220 171 16 = y232 from hy232.symm]
          exact pj_X_sub [(0, .ref 171), (1, .int v1), (2, .int v2), (3, .int v3), (4, .int v4), (5, .int z396)] (show List.Nodup [0, 1, 2, 3, 4, 5] by decide) ⟨rfl, rfl, rfl, rfl, rfl, rfl, trivial⟩ (ih.2 G220 iG220 kG220 v1 v2 v3 v4 z396 (pj_i32 _) (pj_i32 _) (pj_i32 _) (pj_i32 _) ⟨by omega, by omega⟩ (by omega) (by omega) (by omega))
theorem ct_231tx (G0 : pj_G) (hI : pj_Inv G0) (p0_ : pj_RI G0) (p1_ : (pj_fi G0 171 30).toInt ≤ 15) : pj_Y 19 231 [.ref 171] G0 (fun v' G' => ∃ y : Int32, v' = some (.int y) ∧ pj_Inv G' ∧ pj_kpt kc_231tx G0 G' ∧ ((-2147483648 : Int) ≤ y.toInt ∧ y.toInt ≤ 2147483647) ∧ (((pj_fi G' 171 30).toInt ≤ 15) ∧ (pj_fi G' 171 16).toInt = 0) ∧ ((y, G') = F_232tx G0)) := by
  have c0_ : ((Int8.ofInt 59).toInt32).toInt = 59 := by decide
  have c1_ : ((Int8.ofInt 60).toInt32).toInt = 60 := by decide
  have c2_ : (Int32.ofInt 0).toInt = 0 := by decide
  have c3_ : (Int32.ofInt 1).toInt = 1 := by decide
  refine pj_Y_X (M := pj_m231) rfl rfl (Nat.le_of_ble_eq_true rfl) ?_
  have hK : pj_kpt kc_231tx G0 G0 := pj_kpt_r _ _
  show pj_X _ _ G0 0 [(0, .ref 171)] [] _
  rw [F_232tx_e]
  obtain ⟨y403, hy403⟩ : ∃ z : Int32, z = pj_fi G0 171 30 := ⟨_, rfl⟩
  have ey403 : (pj_fi G0 171 30).toInt = y403.toInt := by rw [hy403]
  have ry403 : (0 : Int) ≤ y403.toInt ∧ y403.toInt ≤ 16 := by rw [hy403]; exact hI.2.1 171 30 (0, 16) rfl
  obtain ⟨y404, hy404⟩ : ∃ z : Int32, z = pj_fi G0 171 1 := ⟨_, rfl⟩
  have ey404 : (pj_fi G0 171 1).toInt = y404.toInt := by rw [hy404]
  have ry404 : (0 : Int) ≤ y404.toInt ∧ y404.toInt ≤ 24 := by rw [hy404]; exact hI.2.1 171 1 (0, 24) rfl
  obtain ⟨y405, hy405⟩ : ∃ z : Int32, z = pj_fi G0 171 39 := ⟨_, rfl⟩
  have ey405 : (pj_fi G0 171 39).toInt = y405.toInt := by rw [hy405]
  have ry405 : (0 : Int) ≤ y405.toInt ∧ y405.toInt ≤ 60 := by rw [hy405]; exact hI.2.1 171 39 (0, 60) rfl
  obtain ⟨y406, hy406⟩ : ∃ z : Int32, z = pj_fi G0 171 17 := ⟨_, rfl⟩
  have ey406 : (pj_fi G0 171 17).toInt = y406.toInt := by rw [hy406]
  have ry406 : (0 : Int) ≤ y406.toInt ∧ y406.toInt ≤ 80 := by rw [hy406]; exact hI.2.1 171 17 (0, 80) rfl
  obtain ⟨y407, hy407⟩ : ∃ z : Int32, z = pj_fi G0 171 18 := ⟨_, rfl⟩
  have ey407 : (pj_fi G0 171 18).toInt = y407.toInt := by rw [hy407]
  have ry407 : (0 : Int) ≤ y407.toInt ∧ y407.toInt ≤ 80 := by rw [hy407]; exact hI.2.1 171 18 (0, 80) rfl
  obtain ⟨y408, hy408⟩ : ∃ z : Int32, z = pj_fi G0 171 16 := ⟨_, rfl⟩
  have ey408 : (pj_fi G0 171 16).toInt = y408.toInt := by rw [hy408]
  have ry408 : (0 : Int) ≤ y408.toInt ∧ y408.toInt ≤ 80 := by rw [hy408]; exact hI.2.1 171 16 (0, 80) rfl
  refine pj_X_of (fun r h => pj_R_to (G0, 2, [(0, .ref 171)], [.int (Int32.ofInt 0), .ref 171], 0, 0) 2 3 (fun _ => rfl) h) ?_
  refine pj_X_of (fun r h => pj_T_pf hI rfl rfl rfl h) ?_
  show pj_X _ _ (pj_wv G0 171 0 (.int (Int32.ofInt 0))) 5 [(0, .ref 171)] [] _
  obtain ⟨G409, hG409⟩ : ∃ H, H = pj_wv G0 171 0 (.int (Int32.ofInt 0)) := ⟨_, rfl⟩
  have iG409 : pj_Inv G409 := by rw [hG409]; exact pj_Inv_wi hI (ci := 12) rfl (fun q hq => by cases hq)
  have kG409 : pj_kpt kc_231tx G0 G409 := by rw [hG409]; exact pj_kpt_v hK rfl
  rw [← hG409]
  rw [pj_nm_e]
  refine pj_X_of (fun r h => pj_R_to (G409, 8, [(0, .ref 171)], [.int ((Int8.ofInt 60).toInt32), .ref 171], 0, 0) 8 3 (fun _ => rfl) h) ?_
  have q410 : (pj_fi G409 171 30).toInt = y403.toInt := by rw [show pj_fi G409 171 30 = y403 from by rw [hG409, pj_fi_wv_ne _ _ _ _ _ _ (by decide)]; exact hy403.symm]
  have q411 : (pj_fi G409 171 1).toInt = y404.toInt := by rw [show pj_fi G409 171 1 = y404 from by rw [hG409, pj_fi_wv_ne _ _ _ _ _ _ (by decide)]; exact hy404.symm]
  have q412 : (pj_fi G409 171 39).toInt = y405.toInt := by rw [show pj_fi G409 171 39 = y405 from by rw [hG409, pj_fi_wv_ne _ _ _ _ _ _ (by decide)]; exact hy405.symm]
  have q413 : (pj_fi G409 171 17).toInt = y406.toInt := by rw [show pj_fi G409 171 17 = y406 from by rw [hG409, pj_fi_wv_ne _ _ _ _ _ _ (by decide)]; exact hy406.symm]
  have q414 : (pj_fi G409 171 18).toInt = y407.toInt := by rw [show pj_fi G409 171 18 = y407 from by rw [hG409, pj_fi_wv_ne _ _ _ _ _ _ (by decide)]; exact hy407.symm]
  have q415 : (pj_fi G409 171 16).toInt = y408.toInt := by rw [show pj_fi G409 171 16 = y408 from by rw [hG409, pj_fi_wv_ne _ _ _ _ _ _ (by decide)]; exact hy408.symm]
  refine pj_X_ca (vs := [.ref 171, .int ((Int8.ofInt 60).toInt32)]) rfl (fun _ => rfl) ⟨Nat.le_of_ble_eq_true rfl, Nat.le_of_ble_eq_true rfl, pj_T_rcv iG409 rfl⟩ ⟨rfl, rfl⟩ (pj_Y_up (by decide) (ct_181etx G409 iG409 ((Int8.ofInt 60).toInt32) ⟨by omega, by omega⟩)) ?_
  rintro _ G417 ⟨y416, rfl, iG417, jG417, ry416, ey416, fy416⟩
  replace ey416 := ey416 _ rfl
  rw [← fy416, pj_bd_e]
  have kG417 : pj_kpt kc_231tx G0 G417 := pj_kpt_t kG409 (pj_kpt_s jG417 rfl)
  have q418 : (pj_fi G417 171 30).toInt = (pj_fi G409 171 30).toInt := by rw [jG417.1 (171, 30) (by decide)]
  have q419 : (pj_fi G417 171 1).toInt = (pj_fi G409 171 1).toInt := by rw [jG417.1 (171, 1) (by decide)]
  have q420 : (pj_fi G417 171 39).toInt = (pj_fi G409 171 39).toInt := by rw [jG417.1 (171, 39) (by decide)]
  obtain ⟨y421, hy421⟩ : ∃ z : Int32, z = pj_fi G417 171 30 := ⟨_, rfl⟩
  have ey421 : (pj_fi G417 171 30).toInt = y421.toInt := by rw [hy421]
  have ry421 : (0 : Int) ≤ y421.toInt ∧ y421.toInt ≤ 16 := by rw [hy421]; exact iG417.2.1 171 30 (0, 16) rfl
  obtain ⟨y422, hy422⟩ : ∃ z : Int32, z = pj_fi G417 171 1 := ⟨_, rfl⟩
  have ey422 : (pj_fi G417 171 1).toInt = y422.toInt := by rw [hy422]
  have ry422 : (0 : Int) ≤ y422.toInt ∧ y422.toInt ≤ 24 := by rw [hy422]; exact iG417.2.1 171 1 (0, 24) rfl
  obtain ⟨y423, hy423⟩ : ∃ z : Int32, z = pj_fi G417 171 39 := ⟨_, rfl⟩
  have ey423 : (pj_fi G417 171 39).toInt = y423.toInt := by rw [hy423]
  have ry423 : (0 : Int) ≤ y423.toInt ∧ y423.toInt ≤ 60 := by rw [hy423]; exact iG417.2.1 171 39 (0, 60) rfl
  obtain ⟨y424, hy424⟩ : ∃ z : Int32, z = pj_fi G417 171 17 := ⟨_, rfl⟩
  have ey424 : (pj_fi G417 171 17).toInt = y424.toInt := by rw [hy424]
  have ry424 : (0 : Int) ≤ y424.toInt ∧ y424.toInt ≤ 80 := by rw [hy424]; exact iG417.2.1 171 17 (0, 80) rfl
  obtain ⟨y425, hy425⟩ : ∃ z : Int32, z = pj_fi G417 171 18 := ⟨_, rfl⟩
  have ey425 : (pj_fi G417 171 18).toInt = y425.toInt := by rw [hy425]
  have ry425 : (0 : Int) ≤ y425.toInt ∧ y425.toInt ≤ 80 := by rw [hy425]; exact iG417.2.1 171 18 (0, 80) rfl
  obtain ⟨y426, hy426⟩ : ∃ z : Int32, z = pj_fi G417 171 16 := ⟨_, rfl⟩
  have ey426 : (pj_fi G417 171 16).toInt = y426.toInt := by rw [hy426]
  have ry426 : (0 : Int) ≤ y426.toInt ∧ y426.toInt ≤ 80 := by rw [hy426]; exact iG417.2.1 171 16 (0, 80) rfl
  show pj_X _ _ G417 11 [(0, .ref 171)] [.int y416] _
  refine pj_X_of (fun r h => pj_R_to (G417, 14, [(1, .int y416), (0, .ref 171)], [.int (Int32.ofInt 0), .ref 171], 0, 0) 14 4 (fun _ => rfl) h) ?_
  refine pj_X_of (fun r h => pj_T_pf iG417 rfl rfl rfl h) ?_
  show pj_X _ _ (pj_wv G417 171 39 (.int (Int32.ofInt 0))) 17 [(1, .int y416), (0, .ref 171)] [] _
  obtain ⟨G427, hG427⟩ : ∃ H, H = pj_wv G417 171 39 (.int (Int32.ofInt 0)) := ⟨_, rfl⟩
  have iG427 : pj_Inv G427 := by rw [hG427]; exact pj_Inv_wi iG417 (ci := 12) rfl (fun q hq => by cases hq; exact ⟨by show (0 : Int) ≤ _; omega, by show _ ≤ (60 : Int); omega⟩)
  have kG427 : pj_kpt kc_231tx G0 G427 := by rw [hG427]; exact pj_kpt_v kG417 rfl
  rw [← hG427]
  rw [pj_nm_e]
  refine pj_X_of (fun r h => pj_R_to (G427, 20, [(2, .int (Int32.ofInt 1)), (1, .int y416), (0, .ref 171)], [.int y416], 0, 0) 20 4 (fun _ => rfl) h) ?_
  cases b428 : pj_c1 .le y416 0 with
  | true =>
    rw [pj_cT]
    have ub428 := pj_u0_leT b428
    refine pj_X_of (fun r h => pj_R_ifT 27 rfl rfl b428 h) ?_
    refine pj_X_of (fun r h => pj_R_to (G427, 29, [(3, .int (Int32.ofInt 0)), (2, .int (Int32.ofInt 1)), (1, .int y416), (0, .ref 171)], [], 0, 0) 29 3 (fun _ => rfl) h) ?_
    have q429 : (pj_fi G427 171 30).toInt = y421.toInt := by rw [show pj_fi G427 171 30 = y421 from by rw [hG427, pj_fi_wv_ne _ _ _ _ _ _ (by decide)]; exact hy421.symm]
    have q430 : (pj_fi G427 171 1).toInt = y422.toInt := by rw [show pj_fi G427 171 1 = y422 from by rw [hG427, pj_fi_wv_ne _ _ _ _ _ _ (by decide)]; exact hy422.symm]
    have q431 : (pj_fi G427 171 39).toInt = (Int32.ofInt 0).toInt := by rw [show pj_fi G427 171 39 = Int32.ofInt 0 from by rw [hG427]; exact pj_fi_wi iG417.1 (ci := 12) rfl _]
    have q432 : (pj_fi G427 171 17).toInt = y424.toInt := by rw [show pj_fi G427 171 17 = y424 from by rw [hG427, pj_fi_wv_ne _ _ _ _ _ _ (by decide)]; exact hy424.symm]
    have q433 : (pj_fi G427 171 18).toInt = y425.toInt := by rw [show pj_fi G427 171 18 = y425 from by rw [hG427, pj_fi_wv_ne _ _ _ _ _ _ (by decide)]; exact hy425.symm]
    have q434 : (pj_fi G427 171 16).toInt = y426.toInt := by rw [show pj_fi G427 171 16 = y426 from by rw [hG427, pj_fi_wv_ne _ _ _ _ _ _ (by decide)]; exact hy426.symm]
    exact pj_X_sub [(0, .ref 171), (1, .int y416), (2, .int (Int32.ofInt 1)), (3, .int (Int32.ofInt 0))] (show List.Nodup [0, 1, 2, 3] by decide) ⟨rfl, rfl, rfl, rfl, trivial⟩ ((lp_ct_231tx G0 hI   p0_ p1_ 263).1 G427 iG427 kG427 y416 (Int32.ofInt 1) (Int32.ofInt 0) ⟨by omega, by omega⟩ ⟨by omega, by omega⟩ ⟨by omega, by omega⟩ (by omega) (by omega) (by omega) (by omega) (by omega) (by omega))
  | false =>
    rw [pj_cF]
    have ub428 := pj_u0_leF b428
    refine pj_X_of (fun r h => pj_R_ifF rfl b428 h) ?_
    refine pj_X_of (fun r h => pj_R_to (G427, 29, [(3, .int (Int32.ofInt 1)), (2, .int (Int32.ofInt 1)), (1, .int y416), (0, .ref 171)], [], 0, 0) 29 4 (fun _ => rfl) h) ?_
    have q435 : (pj_fi G427 171 30).toInt = y421.toInt := by rw [show pj_fi G427 171 30 = y421 from by rw [hG427, pj_fi_wv_ne _ _ _ _ _ _ (by decide)]; exact hy421.symm]
    have q436 : (pj_fi G427 171 1).toInt = y422.toInt := by rw [show pj_fi G427 171 1 = y422 from by rw [hG427, pj_fi_wv_ne _ _ _ _ _ _ (by decide)]; exact hy422.symm]
    have q437 : (pj_fi G427 171 39).toInt = (Int32.ofInt 0).toInt := by rw [show pj_fi G427 171 39 = Int32.ofInt 0 from by rw [hG427]; exact pj_fi_wi iG417.1 (ci := 12) rfl _]
    have q438 : (pj_fi G427 171 17).toInt = y424.toInt := by rw [show pj_fi G427 171 17 = y424 from by rw [hG427, pj_fi_wv_ne _ _ _ _ _ _ (by decide)]; exact hy424.symm]
    have q439 : (pj_fi G427 171 18).toInt = y425.toInt := by rw [show pj_fi G427 171 18 = y425 from by rw [hG427, pj_fi_wv_ne _ _ _ _ _ _ (by decide)]; exact hy425.symm]
    have q440 : (pj_fi G427 171 16).toInt = y426.toInt := by rw [show pj_fi G427 171 16 = y426 from by rw [hG427, pj_fi_wv_ne _ _ _ _ _ _ (by decide)]; exact hy426.symm]
    exact pj_X_sub [(0, .ref 171), (1, .int y416), (2, .int (Int32.ofInt 1)), (3, .int (Int32.ofInt 1))] (show List.Nodup [0, 1, 2, 3] by decide) ⟨rfl, rfl, rfl, rfl, trivial⟩ ((lp_ct_231tx G0 hI   p0_ p1_ 263).1 G427 iG427 kG427 y416 (Int32.ofInt 1) (Int32.ofInt 1) ⟨by omega, by omega⟩ ⟨by omega, by omega⟩ ⟨by omega, by omega⟩ (by omega) (by omega) (by omega) (by omega) (by omega) (by omega))
theorem fr_232tx (G0 : pj_G) (hI : pj_Inv G0) (p0_ : pj_RI G0) (p1_ : (pj_fi G0 171 30).toInt ≤ 15) : pj_Inv (F_232tx G0).2 ∧ pj_kpt kc_231tx G0 (F_232tx G0).2 ∧ (((pj_fi (F_232tx G0).2 171 30).toInt ≤ 15) ∧ (pj_fi (F_232tx G0).2 171 16).toInt = 0) := by
  obtain ⟨v, G', -, y, -, i, j, r, x, e⟩ := ct_231tx G0 hI p0_ p1_
  rw [← e]
  exact ⟨i, j, x⟩
def kc_132nx : pj_KT := ([(2, 1), (2, 2), (2, 3), (2, 4), (4, 1), (6, 7), (6, 8), (21, 7), (21, 8), (49, 3), (53, 1), (53, 2), (57, 0), (57, 5), (57, 7), (57, 8), (63, 0), (63, 5), (63, 7), (63, 8), (69, 0), (69, 5), (69, 7), (69, 8), (75, 0), (75, 5), (75, 7), (75, 8), (81, 0), (81, 5), (81, 7), (81, 8), (87, 0), (87, 5), (87, 7), (87, 8), (93, 0), (93, 5), (93, 7), (93, 8), (99, 0), (99, 5), (99, 7), (99, 8), (105, 0), (105, 5), (105, 7), (105, 8), (111, 0), (111, 5), (111, 7), (111, 8), (117, 0), (117, 5), (117, 7), (117, 8), (123, 0), (123, 5), (123, 7), (123, 8), (129, 0), (129, 5), (129, 7), (129, 8), (135, 0), (135, 5), (135, 7), (135, 8), (141, 0), (141, 5), (141, 7), (141, 8), (147, 0), (147, 5), (147, 7), (147, 8)], [2, 4, 5, 6, 21, 22, 23, 24, 25, 26, 30, 33, 49, 50, 51, 52, 53, 57, 58, 59, 60, 61, 62, 63, 64, 65, 66, 67, 68, 69, 70, 71, 72, 73, 74, 75, 76, 77, 78, 79, 80, 81, 82, 83, 84, 85, 86, 87, 88, 89, 90, 91, 92, 93, 94, 95, 96, 97, 98, 99, 100, 101, 102, 103, 104, 105, 106, 107, 108, 109, 110, 111, 112, 113, 114, 115, 116, 117, 118, 119, 120, 121, 122, 123, 124, 125, 126, 127, 128, 129, 130, 131, 132, 133, 134, 135, 136, 137, 138, 139, 140, 141, 142, 143, 144, 145, 146, 147, 148, 149, 150, 151, 152], [22, 23, 24, 25, 26, 30, 33, 50, 51, 52, 58, 59, 60, 61, 62, 64, 65, 66, 67, 68, 70, 71, 72, 73, 74, 76, 77, 78, 79, 80, 82, 83, 84, 85, 86, 88, 89, 90, 91, 92, 94, 95, 96, 97, 98, 100, 101, 102, 103, 104, 106, 107, 108, 109, 110, 112, 113, 114, 115, 116, 118, 119, 120, 121, 122, 124, 125, 126, 127, 128, 130, 131, 132, 133, 134, 136, 137, 138, 139, 140, 142, 143, 144, 145, 146, 148, 149, 150, 151, 152])
noncomputable def F_132nx (G0 : pj_G) : Int32 × pj_G := pj_nm (F_79x G0 ((Int8.ofInt 60).toInt32)) (fun G4 => pj_nm (F_1x G4) (fun G9 => pj_bd (F_88tx G9) (fun y13 G14 => cond (pj_c1 .eq y13 (Int32.ofInt (-1))) (pj_nm (F_33nx G14) (fun G19 => pj_nm (pj_fi G19 21 8) (fun y22 => pj_bd (F_3x G19) (fun y24 G25 => cond (pj_c1 .le y24 0) (pj_nm (F_34nx G25 (Int32.ofInt 0)) (fun G31 => pj_nm (pj_fi G31 49 3) (fun y34 => cond (pj_c1 .ge y24 y34) (pj_nm (pj_fi G31 21 8) (fun y36 => pj_nm (y36 - y22) (fun z37 => pj_nm (F_56x G31 (Int64.ofNat 0) z37.toInt64) (fun G42 => (y24, G42))))) (pj_nm (pj_fi G31 21 8) (fun y46 => pj_nm (y46 - y22) (fun z47 => pj_nm (F_56x G31 (Int64.ofNat 1) z47.toInt64) (fun G52 => (y24, G52)))))))) (pj_nm (F_34nx G25 (Int32.ofInt 1)) (fun G58 => pj_nm (pj_fi G58 49 3) (fun y61 => cond (pj_c1 .ge y24 y61) (pj_nm (pj_fi G58 21 8) (fun y63 => pj_nm (y63 - y22) (fun z64 => pj_nm (F_56x G58 (Int64.ofNat 0) z64.toInt64) (fun G69 => (y24, G69))))) (pj_nm (pj_fi G58 21 8) (fun y73 => pj_nm (y73 - y22) (fun z74 => pj_nm (F_56x G58 (Int64.ofNat 1) z74.toInt64) (fun G79 => (y24, G79)))))))))))) (pj_nm (F_162x G14 y13) (fun y84 => (y84, G14))))))
theorem F_132nx_e (G0 : pj_G) : F_132nx G0 = pj_nm (F_79x G0 ((Int8.ofInt 60).toInt32)) (fun G4 => pj_nm (F_1x G4) (fun G9 => pj_bd (F_88tx G9) (fun y13 G14 => cond (pj_c1 .eq y13 (Int32.ofInt (-1))) (pj_nm (F_33nx G14) (fun G19 => pj_nm (pj_fi G19 21 8) (fun y22 => pj_bd (F_3x G19) (fun y24 G25 => cond (pj_c1 .le y24 0) (pj_nm (F_34nx G25 (Int32.ofInt 0)) (fun G31 => pj_nm (pj_fi G31 49 3) (fun y34 => cond (pj_c1 .ge y24 y34) (pj_nm (pj_fi G31 21 8) (fun y36 => pj_nm (y36 - y22) (fun z37 => pj_nm (F_56x G31 (Int64.ofNat 0) z37.toInt64) (fun G42 => (y24, G42))))) (pj_nm (pj_fi G31 21 8) (fun y46 => pj_nm (y46 - y22) (fun z47 => pj_nm (F_56x G31 (Int64.ofNat 1) z47.toInt64) (fun G52 => (y24, G52)))))))) (pj_nm (F_34nx G25 (Int32.ofInt 1)) (fun G58 => pj_nm (pj_fi G58 49 3) (fun y61 => cond (pj_c1 .ge y24 y61) (pj_nm (pj_fi G58 21 8) (fun y63 => pj_nm (y63 - y22) (fun z64 => pj_nm (F_56x G58 (Int64.ofNat 0) z64.toInt64) (fun G69 => (y24, G69))))) (pj_nm (pj_fi G58 21 8) (fun y73 => pj_nm (y73 - y22) (fun z74 => pj_nm (F_56x G58 (Int64.ofNat 1) z74.toInt64) (fun G79 => (y24, G79)))))))))))) (pj_nm (F_162x G14 y13) (fun y84 => (y84, G14)))))) := rfl
theorem ct_132nx (G0 : pj_G) (hI : pj_Inv G0) : pj_Y 20 132 [.ref 1] G0 (fun v' G' => ∃ y : Int32, v' = some (.int y) ∧ pj_Inv G' ∧ pj_kpt kc_132nx G0 G' ∧ ((-2147483648 : Int) ≤ y.toInt ∧ y.toInt ≤ 2147483647) ∧ (∀ H, G0 = H → ((pj_fi G' 2 1).toInt = 0 ∧ mr_PC H G')) ∧ ((y, G') = F_132nx G0)) := by
  have c0_ : ((Int8.ofInt 60).toInt32).toInt = 60 := by decide
  have c1_ : (Int32.ofInt (-1)).toInt = -1 := by decide
  have c2_ : (Int32.ofInt 0).toInt = 0 := by decide
  have c3_ : (Int32.ofInt 1).toInt = 1 := by decide
  refine pj_Y_X (M := pj_m132) rfl rfl (Nat.le_of_ble_eq_true rfl) ?_
  have hK : pj_kpt kc_132nx G0 G0 := pj_kpt_r _ _
  show pj_X _ _ G0 0 [(0, .ref 1)] [] _
  rw [F_132nx_e]
  obtain ⟨y1, hy1⟩ : ∃ z : Int32, z = pj_fi G0 2 1 := ⟨_, rfl⟩
  have ey1 : (pj_fi G0 2 1).toInt = y1.toInt := by rw [hy1]
  have ry1 : (0 : Int) ≤ y1.toInt ∧ y1.toInt ≤ 80 := by rw [hy1]; exact hI.2.1 2 1 (0, 80) rfl
  refine pj_X_of (fun r h => pj_R_to (G0, 1, [(0, .ref 1)], [.ref 1], 0, 0) 1 2 (fun _ => rfl) h) ?_
  refine pj_X_of (fun r h => pj_T_gr hI rfl rfl rfl h) ?_
  refine pj_X_of (fun r h => pj_R_to (G0, 6, [(0, .ref 1)], [.int ((Int8.ofInt 60).toInt32), .ref 2], 0, 0) 6 2 (fun _ => rfl) h) ?_
  have q2 : (pj_fi G0 2 1).toInt = y1.toInt := by rw [show pj_fi G0 2 1 = y1 from hy1.symm]
  refine pj_X_ca (vs := [.ref 2, .int ((Int8.ofInt 60).toInt32)]) rfl (fun _ => rfl) ⟨Nat.le_of_ble_eq_true rfl, Nat.le_of_ble_eq_true rfl, pj_T_rcv hI rfl⟩ ⟨rfl, rfl⟩ (pj_Y_up (by decide) (ct_79x G0 hI ((Int8.ofInt 60).toInt32) ⟨by omega, by omega⟩)) ?_
  rintro _ G4 ⟨rfl, iG4, jG4, eG4, fy3⟩
  replace eG4 := eG4 _ rfl
  rw [← fy3, pj_nm_e]
  have kG4 : pj_kpt kc_132nx G0 G4 := pj_kpt_t hK (pj_kpt_s jG4 rfl)
  have q5 : (pj_fi G4 2 1).toInt = (pj_fi G0 2 1).toInt := by rw [jG4.1 (2, 1) (by decide)]
  obtain ⟨y6, hy6⟩ : ∃ z : Int32, z = pj_fi G4 2 1 := ⟨_, rfl⟩
  have ey6 : (pj_fi G4 2 1).toInt = y6.toInt := by rw [hy6]
  have ry6 : (0 : Int) ≤ y6.toInt ∧ y6.toInt ≤ 80 := by rw [hy6]; exact iG4.2.1 2 1 (0, 80) rfl
  show pj_X _ _ G4 9 [(0, .ref 1)] [] _
  refine pj_X_of (fun r h => pj_R_to (G4, 10, [(0, .ref 1)], [.ref 1], 0, 0) 10 2 (fun _ => rfl) h) ?_
  refine pj_X_of (fun r h => pj_T_gr iG4 rfl rfl rfl h) ?_
  refine pj_X_of (fun r h => pj_R_to (G4, 14, [(0, .ref 1)], [.ref 1, .ref 49], 0, 0) 14 2 (fun _ => rfl) h) ?_
  refine pj_X_of (fun r h => pj_T_gr iG4 rfl rfl rfl h) ?_
  have q7 : (pj_fi G4 2 1).toInt = y6.toInt := by rw [show pj_fi G4 2 1 = y6 from hy6.symm]
  refine pj_X_ca (vs := [.ref 49, .ref 2]) rfl (fun _ => rfl) ⟨Nat.le_of_ble_eq_true rfl, Nat.le_of_ble_eq_true rfl, pj_T_rcv iG4 rfl⟩ ⟨rfl, rfl⟩ (pj_Y_up (by decide) (ct_1x G4 iG4)) ?_
  rintro _ G9 ⟨rfl, iG9, jG9, fy8⟩
  rw [← fy8, pj_nm_e]
  have kG9 : pj_kpt kc_132nx G0 G9 := pj_kpt_t kG4 (pj_kpt_s jG9 rfl)
  have q10 : (pj_fi G9 2 1).toInt = (pj_fi G4 2 1).toInt := by rw [jG9.1 (2, 1) (by decide)]
  obtain ⟨y11, hy11⟩ : ∃ z : Int32, z = pj_fi G9 2 1 := ⟨_, rfl⟩
  have ey11 : (pj_fi G9 2 1).toInt = y11.toInt := by rw [hy11]
  have ry11 : (0 : Int) ≤ y11.toInt ∧ y11.toInt ≤ 80 := by rw [hy11]; exact iG9.2.1 2 1 (0, 80) rfl
  show pj_X _ _ G9 20 [(0, .ref 1)] [] _
  refine pj_X_of (fun r h => pj_R_to (G9, 21, [(0, .ref 1)], [.ref 1], 0, 0) 21 2 (fun _ => rfl) h) ?_
  refine pj_X_of (fun r h => pj_T_gr iG9 rfl rfl rfl h) ?_
  have q12 : (pj_fi G9 2 1).toInt = y11.toInt := by rw [show pj_fi G9 2 1 = y11 from hy11.symm]
  refine pj_X_ca (vs := [.ref 2]) rfl (fun _ => rfl) ⟨Nat.le_of_ble_eq_true rfl, Nat.le_of_ble_eq_true rfl, pj_T_rcv iG9 rfl⟩ ⟨rfl, rfl⟩ (pj_Y_up (by decide) (ct_88tx G9 iG9)) ?_
  rintro _ G14 ⟨y13, rfl, iG14, jG14, ry13, ey13, fy13⟩
  replace ey13 := ey13 _ rfl
  rw [← fy13, pj_bd_e]
  have kG14 : pj_kpt kc_132nx G0 G14 := pj_kpt_t kG9 (pj_kpt_s jG14 rfl)
  obtain ⟨y15, hy15⟩ : ∃ z : Int32, z = pj_fi G14 2 1 := ⟨_, rfl⟩
  have ey15 : (pj_fi G14 2 1).toInt = y15.toInt := by rw [hy15]
  have ry15 : (0 : Int) ≤ y15.toInt ∧ y15.toInt ≤ 80 := by rw [hy15]; exact iG14.2.1 2 1 (0, 80) rfl
  show pj_X _ _ G14 27 [(0, .ref 1)] [.int y13] _
  refine pj_X_of (fun r h => pj_R_to (G14, 30, [(1, .int y13), (0, .ref 1)], [.int (Int32.ofInt (-1)), .int y13], 0, 0) 30 4 (fun _ => rfl) h) ?_
  cases b16 : pj_c1 .eq y13 (Int32.ofInt (-1)) with
  | true =>
    rw [pj_cT]
    have ub16 := pj_u_eqT b16
    refine pj_X_of (fun r h => pj_R_icT 38 rfl rfl b16 h) ?_
    refine pj_X_of (fun r h => pj_R_to (G14, 39, [(1, .int y13), (0, .ref 1)], [.ref 1], 0, 0) 39 2 (fun _ => rfl) h) ?_
    refine pj_X_of (fun r h => pj_T_gr iG14 rfl rfl rfl h) ?_
    refine pj_X_of (fun r h => pj_R_to (G14, 43, [(1, .int y13), (0, .ref 1)], [.ref 1, .ref 53], 0, 0) 43 2 (fun _ => rfl) h) ?_
    refine pj_X_of (fun r h => pj_T_gr iG14 rfl rfl rfl h) ?_
    refine pj_X_of (fun r h => pj_T_gr iG14 rfl rfl rfl h) ?_
    have q17 : (pj_fi G14 2 1).toInt = y15.toInt := by rw [show pj_fi G14 2 1 = y15 from hy15.symm]
    refine pj_X_ca (vs := [.ref 53, .ref 21]) rfl (fun _ => rfl) ⟨Nat.le_of_ble_eq_true rfl, Nat.le_of_ble_eq_true rfl, pj_T_rcv iG14 rfl⟩ ⟨rfl, rfl⟩ (pj_Y_up (by decide) (ct_33nx G14 iG14)) ?_
    rintro _ G19 ⟨rfl, iG19, jG19, eG19, fy18⟩
    replace eG19 := eG19 _ rfl
    rw [← fy18, pj_nm_e]
    have kG19 : pj_kpt kc_132nx G0 G19 := pj_kpt_t kG14 (pj_kpt_s jG19 rfl)
    have q20 : (pj_fi G19 2 1).toInt = (pj_fi G14 2 1).toInt := by rw [jG19.1 (2, 1) (by decide)]
    obtain ⟨y21, hy21⟩ : ∃ z : Int32, z = pj_fi G19 2 1 := ⟨_, rfl⟩
    have ey21 : (pj_fi G19 2 1).toInt = y21.toInt := by rw [hy21]
    have ry21 : (0 : Int) ≤ y21.toInt ∧ y21.toInt ≤ 80 := by rw [hy21]; exact iG19.2.1 2 1 (0, 80) rfl
    show pj_X _ _ G19 52 [(1, .int y13), (0, .ref 1)] [] _
    refine pj_X_of (fun r h => pj_R_to (G19, 53, [(1, .int y13), (0, .ref 1)], [.ref 1], 0, 0) 53 2 (fun _ => rfl) h) ?_
    refine pj_X_of (fun r h => pj_T_gr iG19 rfl rfl rfl h) ?_
    refine pj_X_of (fun r h => pj_T_gr iG19 rfl rfl rfl h) ?_
    refine pj_X_of (fun r h => pj_T_gi iG19 rfl rfl h) ?_
    show pj_X _ _ G19 62 [(1, .int y13), (0, .ref 1)] [.int (pj_fi G19 21 8)] _
    obtain ⟨y22, hy22⟩ : ∃ z : Int32, z = pj_fi G19 21 8 := ⟨_, rfl⟩
    refine pj_X_eqi hy22.symm ?_
    rw [← hy22, pj_nm_e]
    have ey22 : (pj_fi G19 21 8).toInt = y22.toInt := by rw [hy22]
    refine pj_X_of (fun r h => pj_R_to (G19, 64, [(2, .int y22), (1, .int y13), (0, .ref 1)], [.ref 1], 0, 0) 64 3 (fun _ => rfl) h) ?_
    refine pj_X_of (fun r h => pj_T_gr iG19 rfl rfl rfl h) ?_
    refine pj_X_of (fun r h => pj_R_to (G19, 68, [(2, .int y22), (1, .int y13), (0, .ref 1)], [.ref 1, .ref 49], 0, 0) 68 2 (fun _ => rfl) h) ?_
    refine pj_X_of (fun r h => pj_T_gr iG19 rfl rfl rfl h) ?_
    have q23 : (pj_fi G19 2 1).toInt = y21.toInt := by rw [show pj_fi G19 2 1 = y21 from hy21.symm]
    refine pj_X_ca (vs := [.ref 49, .ref 6]) rfl (fun _ => rfl) ⟨Nat.le_of_ble_eq_true rfl, Nat.le_of_ble_eq_true rfl, pj_T_rcv iG19 rfl⟩ ⟨rfl, rfl⟩ (pj_Y_up (by decide) (ct_3x G19 iG19)) ?_
    rintro _ G25 ⟨y24, rfl, iG25, jG25, ry24, fy24⟩
    rw [← fy24, pj_bd_e]
    have kG25 : pj_kpt kc_132nx G0 G25 := pj_kpt_t kG19 (pj_kpt_s jG25 rfl)
    have q26 : (pj_fi G25 2 1).toInt = (pj_fi G19 2 1).toInt := by rw [jG25.1 (2, 1) (by decide)]
    obtain ⟨y27, hy27⟩ : ∃ z : Int32, z = pj_fi G25 2 1 := ⟨_, rfl⟩
    have ey27 : (pj_fi G25 2 1).toInt = y27.toInt := by rw [hy27]
    have ry27 : (0 : Int) ≤ y27.toInt ∧ y27.toInt ≤ 80 := by rw [hy27]; exact iG25.2.1 2 1 (0, 80) rfl
    show pj_X _ _ G25 74 [(2, .int y22), (1, .int y13), (0, .ref 1)] [.int y24] _
    refine pj_X_of (fun r h => pj_R_to (G25, 76, [(3, .int y24), (2, .int y22), (1, .int y13), (0, .ref 1)], [.ref 1], 0, 0) 76 3 (fun _ => rfl) h) ?_
    refine pj_X_of (fun r h => pj_T_gr iG25 rfl rfl rfl h) ?_
    refine pj_X_of (fun r h => pj_R_to (G25, 80, [(3, .int y24), (2, .int y22), (1, .int y13), (0, .ref 1)], [.int y24, .ref 53], 0, 0) 80 2 (fun _ => rfl) h) ?_
    cases b28 : pj_c1 .le y24 0 with
    | true =>
      rw [pj_cT]
      have ub28 := pj_u0_leT b28
      refine pj_X_of (fun r h => pj_R_ifT 87 rfl rfl b28 h) ?_
      refine pj_X_of (fun r h => pj_R_to (G25, 88, [(3, .int y24), (2, .int y22), (1, .int y13), (0, .ref 1)], [.int (Int32.ofInt 0), .ref 53], 0, 0) 88 2 (fun _ => rfl) h) ?_
      have q29 : (pj_fi G25 2 1).toInt = y27.toInt := by rw [show pj_fi G25 2 1 = y27 from hy27.symm]
      refine pj_X_ca (vs := [.ref 53, .int (Int32.ofInt 0)]) rfl (fun _ => rfl) ⟨Nat.le_of_ble_eq_true rfl, Nat.le_of_ble_eq_true rfl, pj_T_rcv iG25 rfl⟩ ⟨rfl, rfl⟩ (pj_Y_up (by decide) (ct_34nx G25 iG25 (Int32.ofInt 0) ⟨by omega, by omega⟩)) ?_
      rintro _ G31 ⟨rfl, iG31, jG31, eG31, fy30⟩
      replace eG31 := eG31 _ rfl
      rw [← fy30, pj_nm_e]
      have kG31 : pj_kpt kc_132nx G0 G31 := pj_kpt_t kG25 (pj_kpt_s jG31 rfl)
      have q32 : (pj_fi G31 2 1).toInt = (pj_fi G25 2 1).toInt := by rw [jG31.1 (2, 1) (by decide)]
      obtain ⟨y33, hy33⟩ : ∃ z : Int32, z = pj_fi G31 2 1 := ⟨_, rfl⟩
      have ey33 : (pj_fi G31 2 1).toInt = y33.toInt := by rw [hy33]
      have ry33 : (0 : Int) ≤ y33.toInt ∧ y33.toInt ≤ 80 := by rw [hy33]; exact iG31.2.1 2 1 (0, 80) rfl
      show pj_X _ _ G31 91 [(3, .int y24), (2, .int y22), (1, .int y13), (0, .ref 1)] [] _
      refine pj_X_of (fun r h => pj_R_to (G31, 92, [(3, .int y24), (2, .int y22), (1, .int y13), (0, .ref 1)], [.ref 1], 0, 0) 92 2 (fun _ => rfl) h) ?_
      refine pj_X_of (fun r h => pj_T_gr iG31 rfl rfl rfl h) ?_
      refine pj_X_of (fun r h => pj_R_to (G31, 97, [(3, .int y24), (2, .int y22), (1, .int y13), (0, .ref 1)], [.ref 1, .int y24, .ref 4], 0, 0) 97 3 (fun _ => rfl) h) ?_
      refine pj_X_of (fun r h => pj_T_gr iG31 rfl rfl rfl h) ?_
      refine pj_X_of (fun r h => pj_T_gi iG31 rfl rfl h) ?_
      show pj_X _ _ G31 103 [(3, .int y24), (2, .int y22), (1, .int y13), (0, .ref 1)] [.int (pj_fi G31 49 3), .int y24, .ref 4] _
      obtain ⟨y34, hy34⟩ : ∃ z : Int32, z = pj_fi G31 49 3 := ⟨_, rfl⟩
      refine pj_X_eqi hy34.symm ?_
      rw [← hy34, pj_nm_e]
      have ey34 : (pj_fi G31 49 3).toInt = y34.toInt := by rw [hy34]
      have ry34 : (0 : Int) ≤ y34.toInt ∧ y34.toInt ≤ 21 := by rw [hy34]; exact iG31.2.1 49 3 (0, 21) rfl
      cases b35 : pj_c1 .ge y24 y34 with
      | true =>
        rw [pj_cT]
        have ub35 := pj_u_geT b35
        refine pj_X_of (fun r h => pj_R_icT 110 rfl rfl b35 h) ?_
        refine pj_X_of (fun r h => pj_R_to (G31, 112, [(3, .int y24), (2, .int y22), (1, .int y13), (0, .ref 1)], [.ref 1, .long (Int64.ofNat 0), .ref 4], 0, 0) 112 3 (fun _ => rfl) h) ?_
        refine pj_X_of (fun r h => pj_T_gr iG31 rfl rfl rfl h) ?_
        refine pj_X_of (fun r h => pj_T_gr iG31 rfl rfl rfl h) ?_
        refine pj_X_of (fun r h => pj_T_gi iG31 rfl rfl h) ?_
        show pj_X _ _ G31 121 [(3, .int y24), (2, .int y22), (1, .int y13), (0, .ref 1)] [.int (pj_fi G31 21 8), .long (Int64.ofNat 0), .ref 4] _
        obtain ⟨y36, hy36⟩ : ∃ z : Int32, z = pj_fi G31 21 8 := ⟨_, rfl⟩
        refine pj_X_eqi hy36.symm ?_
        rw [← hy36, pj_nm_e]
        have ey36 : (pj_fi G31 21 8).toInt = y36.toInt := by rw [hy36]
        refine pj_X_of (fun r h => pj_R_to (G31, 123, [(3, .int y24), (2, .int y22), (1, .int y13), (0, .ref 1)], [.int (y36 - y22), .long (Int64.ofNat 0), .ref 4], 0, 0) 123 3 (fun _ => rfl) h) ?_
        obtain ⟨z37, hz37⟩ : ∃ z : Int32, z = y36 - y22 := ⟨_, rfl⟩
        refine pj_X_eqi hz37.symm ?_
        rw [← hz37, pj_nm_e]
        refine pj_X_of (fun r h => pj_R_to (G31, 124, [(3, .int y24), (2, .int y22), (1, .int y13), (0, .ref 1)], [.long z37.toInt64, .long (Int64.ofNat 0), .ref 4], 0, 0) 124 2 (fun _ => rfl) h) ?_
        have q38 : (pj_fi G31 2 1).toInt = y33.toInt := by rw [show pj_fi G31 2 1 = y33 from hy33.symm]
        have lc39 : (Int64.ofNat 0).toInt = 0 := by decide
        have lc40 : (z37.toInt64).toInt = z37.toInt := Int32.toInt_toInt64 _
        refine pj_X_ca (vs := [.ref 4, .long (Int64.ofNat 0), .long z37.toInt64]) rfl (fun _ => rfl) ⟨Nat.le_of_ble_eq_true rfl, Nat.le_of_ble_eq_true rfl, pj_T_rcv iG31 rfl⟩ ⟨rfl, rfl⟩ (pj_Y_up (by decide) (ct_56x G31 iG31 (Int64.ofNat 0) z37.toInt64)) ?_
        rintro _ G42 ⟨rfl, iG42, jG42, fy41⟩
        rw [← fy41, pj_nm_e]
        have kG42 : pj_kpt kc_132nx G0 G42 := pj_kpt_t kG31 (pj_kpt_s jG42 rfl)
        have q43 : (pj_fi G42 2 1).toInt = (pj_fi G31 2 1).toInt := by rw [jG42.1 (2, 1) (by decide)]
        obtain ⟨y44, hy44⟩ : ∃ z : Int32, z = pj_fi G42 2 1 := ⟨_, rfl⟩
        have ey44 : (pj_fi G42 2 1).toInt = y44.toInt := by rw [hy44]
        have ry44 : (0 : Int) ≤ y44.toInt ∧ y44.toInt ≤ 80 := by rw [hy44]; exact iG42.2.1 2 1 (0, 80) rfl
        show pj_X _ _ G42 127 [(3, .int y24), (2, .int y22), (1, .int y13), (0, .ref 1)] [] _
        refine pj_X_of (fun r h => pj_R_to (G42, 128, [(3, .int y24), (2, .int y22), (1, .int y13), (0, .ref 1)], [.int y24], 0, 0) 128 2 (fun _ => rfl) h) ?_
        have q45 : (pj_fi G42 2 1).toInt = y44.toInt := by rw [show pj_fi G42 2 1 = y44 from hy44.symm]
        exact pj_X_rt rfl rfl ⟨_, rfl, iG42, kG42, pj_i32 _, (fun H hH => by subst hH; exact (⟨by omega, mr_PC_t (mr_PC_k jG4 rfl) (mr_PC_t (mr_PC_k jG9 rfl) (mr_PC_t (mr_PC_k jG14 rfl) (mr_PC_t (mr_deed iG14 eG19 jG19 rfl jG25 rfl jG31 rfl (by omega)) (mr_PC_k jG42 rfl))))⟩)), rfl⟩
      | false =>
        rw [pj_cF]
        have ub35 := pj_u_geF b35
        refine pj_X_of (fun r h => pj_R_icF rfl b35 h) ?_
        refine pj_X_of (fun r h => pj_R_to (G31, 112, [(3, .int y24), (2, .int y22), (1, .int y13), (0, .ref 1)], [.ref 1, .long (Int64.ofNat 1), .ref 4], 0, 0) 112 4 (fun _ => rfl) h) ?_
        refine pj_X_of (fun r h => pj_T_gr iG31 rfl rfl rfl h) ?_
        refine pj_X_of (fun r h => pj_T_gr iG31 rfl rfl rfl h) ?_
        refine pj_X_of (fun r h => pj_T_gi iG31 rfl rfl h) ?_
        show pj_X _ _ G31 121 [(3, .int y24), (2, .int y22), (1, .int y13), (0, .ref 1)] [.int (pj_fi G31 21 8), .long (Int64.ofNat 1), .ref 4] _
        obtain ⟨y46, hy46⟩ : ∃ z : Int32, z = pj_fi G31 21 8 := ⟨_, rfl⟩
        refine pj_X_eqi hy46.symm ?_
        rw [← hy46, pj_nm_e]
        have ey46 : (pj_fi G31 21 8).toInt = y46.toInt := by rw [hy46]
        refine pj_X_of (fun r h => pj_R_to (G31, 123, [(3, .int y24), (2, .int y22), (1, .int y13), (0, .ref 1)], [.int (y46 - y22), .long (Int64.ofNat 1), .ref 4], 0, 0) 123 3 (fun _ => rfl) h) ?_
        obtain ⟨z47, hz47⟩ : ∃ z : Int32, z = y46 - y22 := ⟨_, rfl⟩
        refine pj_X_eqi hz47.symm ?_
        rw [← hz47, pj_nm_e]
        refine pj_X_of (fun r h => pj_R_to (G31, 124, [(3, .int y24), (2, .int y22), (1, .int y13), (0, .ref 1)], [.long z47.toInt64, .long (Int64.ofNat 1), .ref 4], 0, 0) 124 2 (fun _ => rfl) h) ?_
        have q48 : (pj_fi G31 2 1).toInt = y33.toInt := by rw [show pj_fi G31 2 1 = y33 from hy33.symm]
        have lc49 : (Int64.ofNat 1).toInt = 1 := by decide
        have lc50 : (z47.toInt64).toInt = z47.toInt := Int32.toInt_toInt64 _
        refine pj_X_ca (vs := [.ref 4, .long (Int64.ofNat 1), .long z47.toInt64]) rfl (fun _ => rfl) ⟨Nat.le_of_ble_eq_true rfl, Nat.le_of_ble_eq_true rfl, pj_T_rcv iG31 rfl⟩ ⟨rfl, rfl⟩ (pj_Y_up (by decide) (ct_56x G31 iG31 (Int64.ofNat 1) z47.toInt64)) ?_
        rintro _ G52 ⟨rfl, iG52, jG52, fy51⟩
        rw [← fy51, pj_nm_e]
        have kG52 : pj_kpt kc_132nx G0 G52 := pj_kpt_t kG31 (pj_kpt_s jG52 rfl)
        have q53 : (pj_fi G52 2 1).toInt = (pj_fi G31 2 1).toInt := by rw [jG52.1 (2, 1) (by decide)]
        obtain ⟨y54, hy54⟩ : ∃ z : Int32, z = pj_fi G52 2 1 := ⟨_, rfl⟩
        have ey54 : (pj_fi G52 2 1).toInt = y54.toInt := by rw [hy54]
        have ry54 : (0 : Int) ≤ y54.toInt ∧ y54.toInt ≤ 80 := by rw [hy54]; exact iG52.2.1 2 1 (0, 80) rfl
        show pj_X _ _ G52 127 [(3, .int y24), (2, .int y22), (1, .int y13), (0, .ref 1)] [] _
        refine pj_X_of (fun r h => pj_R_to (G52, 128, [(3, .int y24), (2, .int y22), (1, .int y13), (0, .ref 1)], [.int y24], 0, 0) 128 2 (fun _ => rfl) h) ?_
        have q55 : (pj_fi G52 2 1).toInt = y54.toInt := by rw [show pj_fi G52 2 1 = y54 from hy54.symm]
        exact pj_X_rt rfl rfl ⟨_, rfl, iG52, kG52, pj_i32 _, (fun H hH => by subst hH; exact (⟨by omega, mr_PC_t (mr_PC_k jG4 rfl) (mr_PC_t (mr_PC_k jG9 rfl) (mr_PC_t (mr_PC_k jG14 rfl) (mr_PC_t (mr_deed iG14 eG19 jG19 rfl jG25 rfl jG31 rfl (by omega)) (mr_PC_k jG52 rfl))))⟩)), rfl⟩
    | false =>
      rw [pj_cF]
      have ub28 := pj_u0_leF b28
      refine pj_X_of (fun r h => pj_R_ifF rfl b28 h) ?_
      refine pj_X_of (fun r h => pj_R_to (G25, 88, [(3, .int y24), (2, .int y22), (1, .int y13), (0, .ref 1)], [.int (Int32.ofInt 1), .ref 53], 0, 0) 88 3 (fun _ => rfl) h) ?_
      have q56 : (pj_fi G25 2 1).toInt = y27.toInt := by rw [show pj_fi G25 2 1 = y27 from hy27.symm]
      refine pj_X_ca (vs := [.ref 53, .int (Int32.ofInt 1)]) rfl (fun _ => rfl) ⟨Nat.le_of_ble_eq_true rfl, Nat.le_of_ble_eq_true rfl, pj_T_rcv iG25 rfl⟩ ⟨rfl, rfl⟩ (pj_Y_up (by decide) (ct_34nx G25 iG25 (Int32.ofInt 1) ⟨by omega, by omega⟩)) ?_
      rintro _ G58 ⟨rfl, iG58, jG58, eG58, fy57⟩
      replace eG58 := eG58 _ rfl
      rw [← fy57, pj_nm_e]
      have kG58 : pj_kpt kc_132nx G0 G58 := pj_kpt_t kG25 (pj_kpt_s jG58 rfl)
      have q59 : (pj_fi G58 2 1).toInt = (pj_fi G25 2 1).toInt := by rw [jG58.1 (2, 1) (by decide)]
      obtain ⟨y60, hy60⟩ : ∃ z : Int32, z = pj_fi G58 2 1 := ⟨_, rfl⟩
      have ey60 : (pj_fi G58 2 1).toInt = y60.toInt := by rw [hy60]
      have ry60 : (0 : Int) ≤ y60.toInt ∧ y60.toInt ≤ 80 := by rw [hy60]; exact iG58.2.1 2 1 (0, 80) rfl
      show pj_X _ _ G58 91 [(3, .int y24), (2, .int y22), (1, .int y13), (0, .ref 1)] [] _
      refine pj_X_of (fun r h => pj_R_to (G58, 92, [(3, .int y24), (2, .int y22), (1, .int y13), (0, .ref 1)], [.ref 1], 0, 0) 92 2 (fun _ => rfl) h) ?_
      refine pj_X_of (fun r h => pj_T_gr iG58 rfl rfl rfl h) ?_
      refine pj_X_of (fun r h => pj_R_to (G58, 97, [(3, .int y24), (2, .int y22), (1, .int y13), (0, .ref 1)], [.ref 1, .int y24, .ref 4], 0, 0) 97 3 (fun _ => rfl) h) ?_
      refine pj_X_of (fun r h => pj_T_gr iG58 rfl rfl rfl h) ?_
      refine pj_X_of (fun r h => pj_T_gi iG58 rfl rfl h) ?_
      show pj_X _ _ G58 103 [(3, .int y24), (2, .int y22), (1, .int y13), (0, .ref 1)] [.int (pj_fi G58 49 3), .int y24, .ref 4] _
      obtain ⟨y61, hy61⟩ : ∃ z : Int32, z = pj_fi G58 49 3 := ⟨_, rfl⟩
      refine pj_X_eqi hy61.symm ?_
      rw [← hy61, pj_nm_e]
      have ey61 : (pj_fi G58 49 3).toInt = y61.toInt := by rw [hy61]
      have ry61 : (0 : Int) ≤ y61.toInt ∧ y61.toInt ≤ 21 := by rw [hy61]; exact iG58.2.1 49 3 (0, 21) rfl
      cases b62 : pj_c1 .ge y24 y61 with
      | true =>
        rw [pj_cT]
        have ub62 := pj_u_geT b62
        refine pj_X_of (fun r h => pj_R_icT 110 rfl rfl b62 h) ?_
        refine pj_X_of (fun r h => pj_R_to (G58, 112, [(3, .int y24), (2, .int y22), (1, .int y13), (0, .ref 1)], [.ref 1, .long (Int64.ofNat 0), .ref 4], 0, 0) 112 3 (fun _ => rfl) h) ?_
        refine pj_X_of (fun r h => pj_T_gr iG58 rfl rfl rfl h) ?_
        refine pj_X_of (fun r h => pj_T_gr iG58 rfl rfl rfl h) ?_
        refine pj_X_of (fun r h => pj_T_gi iG58 rfl rfl h) ?_
        show pj_X _ _ G58 121 [(3, .int y24), (2, .int y22), (1, .int y13), (0, .ref 1)] [.int (pj_fi G58 21 8), .long (Int64.ofNat 0), .ref 4] _
        obtain ⟨y63, hy63⟩ : ∃ z : Int32, z = pj_fi G58 21 8 := ⟨_, rfl⟩
        refine pj_X_eqi hy63.symm ?_
        rw [← hy63, pj_nm_e]
        have ey63 : (pj_fi G58 21 8).toInt = y63.toInt := by rw [hy63]
        refine pj_X_of (fun r h => pj_R_to (G58, 123, [(3, .int y24), (2, .int y22), (1, .int y13), (0, .ref 1)], [.int (y63 - y22), .long (Int64.ofNat 0), .ref 4], 0, 0) 123 3 (fun _ => rfl) h) ?_
        obtain ⟨z64, hz64⟩ : ∃ z : Int32, z = y63 - y22 := ⟨_, rfl⟩
        refine pj_X_eqi hz64.symm ?_
        rw [← hz64, pj_nm_e]
        refine pj_X_of (fun r h => pj_R_to (G58, 124, [(3, .int y24), (2, .int y22), (1, .int y13), (0, .ref 1)], [.long z64.toInt64, .long (Int64.ofNat 0), .ref 4], 0, 0) 124 2 (fun _ => rfl) h) ?_
        have q65 : (pj_fi G58 2 1).toInt = y60.toInt := by rw [show pj_fi G58 2 1 = y60 from hy60.symm]
        have lc66 : (Int64.ofNat 0).toInt = 0 := by decide
        have lc67 : (z64.toInt64).toInt = z64.toInt := Int32.toInt_toInt64 _
        refine pj_X_ca (vs := [.ref 4, .long (Int64.ofNat 0), .long z64.toInt64]) rfl (fun _ => rfl) ⟨Nat.le_of_ble_eq_true rfl, Nat.le_of_ble_eq_true rfl, pj_T_rcv iG58 rfl⟩ ⟨rfl, rfl⟩ (pj_Y_up (by decide) (ct_56x G58 iG58 (Int64.ofNat 0) z64.toInt64)) ?_
        rintro _ G69 ⟨rfl, iG69, jG69, fy68⟩
        rw [← fy68, pj_nm_e]
        have kG69 : pj_kpt kc_132nx G0 G69 := pj_kpt_t kG58 (pj_kpt_s jG69 rfl)
        have q70 : (pj_fi G69 2 1).toInt = (pj_fi G58 2 1).toInt := by rw [jG69.1 (2, 1) (by decide)]
        obtain ⟨y71, hy71⟩ : ∃ z : Int32, z = pj_fi G69 2 1 := ⟨_, rfl⟩
        have ey71 : (pj_fi G69 2 1).toInt = y71.toInt := by rw [hy71]
        have ry71 : (0 : Int) ≤ y71.toInt ∧ y71.toInt ≤ 80 := by rw [hy71]; exact iG69.2.1 2 1 (0, 80) rfl
        show pj_X _ _ G69 127 [(3, .int y24), (2, .int y22), (1, .int y13), (0, .ref 1)] [] _
        refine pj_X_of (fun r h => pj_R_to (G69, 128, [(3, .int y24), (2, .int y22), (1, .int y13), (0, .ref 1)], [.int y24], 0, 0) 128 2 (fun _ => rfl) h) ?_
        have q72 : (pj_fi G69 2 1).toInt = y71.toInt := by rw [show pj_fi G69 2 1 = y71 from hy71.symm]
        exact pj_X_rt rfl rfl ⟨_, rfl, iG69, kG69, pj_i32 _, (fun H hH => by subst hH; exact (⟨by omega, mr_PC_t (mr_PC_k jG4 rfl) (mr_PC_t (mr_PC_k jG9 rfl) (mr_PC_t (mr_PC_k jG14 rfl) (mr_PC_t (mr_deed iG14 eG19 jG19 rfl jG25 rfl jG58 rfl (by omega)) (mr_PC_k jG69 rfl))))⟩)), rfl⟩
      | false =>
        rw [pj_cF]
        have ub62 := pj_u_geF b62
        refine pj_X_of (fun r h => pj_R_icF rfl b62 h) ?_
        refine pj_X_of (fun r h => pj_R_to (G58, 112, [(3, .int y24), (2, .int y22), (1, .int y13), (0, .ref 1)], [.ref 1, .long (Int64.ofNat 1), .ref 4], 0, 0) 112 4 (fun _ => rfl) h) ?_
        refine pj_X_of (fun r h => pj_T_gr iG58 rfl rfl rfl h) ?_
        refine pj_X_of (fun r h => pj_T_gr iG58 rfl rfl rfl h) ?_
        refine pj_X_of (fun r h => pj_T_gi iG58 rfl rfl h) ?_
        show pj_X _ _ G58 121 [(3, .int y24), (2, .int y22), (1, .int y13), (0, .ref 1)] [.int (pj_fi G58 21 8), .long (Int64.ofNat 1), .ref 4] _
        obtain ⟨y73, hy73⟩ : ∃ z : Int32, z = pj_fi G58 21 8 := ⟨_, rfl⟩
        refine pj_X_eqi hy73.symm ?_
        rw [← hy73, pj_nm_e]
        have ey73 : (pj_fi G58 21 8).toInt = y73.toInt := by rw [hy73]
        refine pj_X_of (fun r h => pj_R_to (G58, 123, [(3, .int y24), (2, .int y22), (1, .int y13), (0, .ref 1)], [.int (y73 - y22), .long (Int64.ofNat 1), .ref 4], 0, 0) 123 3 (fun _ => rfl) h) ?_
        obtain ⟨z74, hz74⟩ : ∃ z : Int32, z = y73 - y22 := ⟨_, rfl⟩
        refine pj_X_eqi hz74.symm ?_
        rw [← hz74, pj_nm_e]
        refine pj_X_of (fun r h => pj_R_to (G58, 124, [(3, .int y24), (2, .int y22), (1, .int y13), (0, .ref 1)], [.long z74.toInt64, .long (Int64.ofNat 1), .ref 4], 0, 0) 124 2 (fun _ => rfl) h) ?_
        have q75 : (pj_fi G58 2 1).toInt = y60.toInt := by rw [show pj_fi G58 2 1 = y60 from hy60.symm]
        have lc76 : (Int64.ofNat 1).toInt = 1 := by decide
        have lc77 : (z74.toInt64).toInt = z74.toInt := Int32.toInt_toInt64 _
        refine pj_X_ca (vs := [.ref 4, .long (Int64.ofNat 1), .long z74.toInt64]) rfl (fun _ => rfl) ⟨Nat.le_of_ble_eq_true rfl, Nat.le_of_ble_eq_true rfl, pj_T_rcv iG58 rfl⟩ ⟨rfl, rfl⟩ (pj_Y_up (by decide) (ct_56x G58 iG58 (Int64.ofNat 1) z74.toInt64)) ?_
        rintro _ G79 ⟨rfl, iG79, jG79, fy78⟩
        rw [← fy78, pj_nm_e]
        have kG79 : pj_kpt kc_132nx G0 G79 := pj_kpt_t kG58 (pj_kpt_s jG79 rfl)
        have q80 : (pj_fi G79 2 1).toInt = (pj_fi G58 2 1).toInt := by rw [jG79.1 (2, 1) (by decide)]
        obtain ⟨y81, hy81⟩ : ∃ z : Int32, z = pj_fi G79 2 1 := ⟨_, rfl⟩
        have ey81 : (pj_fi G79 2 1).toInt = y81.toInt := by rw [hy81]
        have ry81 : (0 : Int) ≤ y81.toInt ∧ y81.toInt ≤ 80 := by rw [hy81]; exact iG79.2.1 2 1 (0, 80) rfl
        show pj_X _ _ G79 127 [(3, .int y24), (2, .int y22), (1, .int y13), (0, .ref 1)] [] _
        refine pj_X_of (fun r h => pj_R_to (G79, 128, [(3, .int y24), (2, .int y22), (1, .int y13), (0, .ref 1)], [.int y24], 0, 0) 128 2 (fun _ => rfl) h) ?_
        have q82 : (pj_fi G79 2 1).toInt = y81.toInt := by rw [show pj_fi G79 2 1 = y81 from hy81.symm]
        exact pj_X_rt rfl rfl ⟨_, rfl, iG79, kG79, pj_i32 _, (fun H hH => by subst hH; exact (⟨by omega, mr_PC_t (mr_PC_k jG4 rfl) (mr_PC_t (mr_PC_k jG9 rfl) (mr_PC_t (mr_PC_k jG14 rfl) (mr_PC_t (mr_deed iG14 eG19 jG19 rfl jG25 rfl jG58 rfl (by omega)) (mr_PC_k jG79 rfl))))⟩)), rfl⟩
  | false =>
    rw [pj_cF]
    have ub16 := pj_u_eqF b16
    refine pj_X_of (fun r h => pj_R_icF rfl b16 h) ?_
    refine pj_X_of (fun r h => pj_R_to (G14, 34, [(1, .int y13), (0, .ref 1)], [.int y13], 0, 0) 34 2 (fun _ => rfl) h) ?_
    have q83 : (pj_fi G14 2 1).toInt = y15.toInt := by rw [show pj_fi G14 2 1 = y15 from hy15.symm]
    refine pj_X_ca (vs := [.int y13]) rfl (fun _ => rfl) ⟨Nat.le_of_ble_eq_true rfl, Nat.le_of_ble_eq_true rfl, rfl⟩ ⟨rfl, rfl⟩ (pj_Y_up (by decide) (ct_162x G14 iG14 y13)) ?_
    rintro _ _ ⟨y84, rfl, rfl, ry84, fy84⟩
    rw [← fy84, pj_nm_e]
    show pj_X _ _ G14 37 [(1, .int y13), (0, .ref 1)] [.int y84] _
    have q85 : (pj_fi G14 2 1).toInt = y15.toInt := by rw [show pj_fi G14 2 1 = y15 from hy15.symm]
    exact pj_X_rt rfl rfl ⟨_, rfl, iG14, kG14, pj_i32 _, (fun H hH => by subst hH; exact (⟨by omega, mr_PC_t (mr_PC_k jG4 rfl) (mr_PC_t (mr_PC_k jG9 rfl) (mr_PC_k jG14 rfl))⟩)), rfl⟩
theorem fr_132nx (G0 : pj_G) (hI : pj_Inv G0) : pj_Inv (F_132nx G0).2 ∧ pj_kpt kc_132nx G0 (F_132nx G0).2 ∧ ((pj_fi (F_132nx G0).2 2 1).toInt = 0 ∧ mr_PC G0 (F_132nx G0).2) := by
  obtain ⟨v, G', -, y, -, i, j, r, x, e⟩ := ct_132nx G0 hI 
  rw [← e]
  exact ⟨i, j, x _ rfl⟩
