theorem pj_ai_wa_nj (G : pj_G) (a j : Nat) (x : Int32) (i : Nat) (h : i ≠ j) : pj_ai (pj_wa G a j x) a i = pj_ai G a i := by
  rcases pj_ai_wa_or G a j x i with e | ⟨e, -⟩
  · exact e
  · exact absurd e h
/-- crossings that were read: their banks, their places -/
def pj_rd (G : pj_G) (m B : Int) : Prop := ∀ c : Nat, (c : Int) < m → (0 ≤ (pj_ai G 181 (4 * c)).toInt ∧ (pj_ai G 181 (4 * c)).toInt < B) ∧ (0 ≤ (pj_ai G 181 (4 * c + 1)).toInt ∧ (pj_ai G 181 (4 * c + 1)).toInt < B) ∧ 0 ≤ (pj_ai G 181 (4 * c + 2)).toInt
theorem pj_rd_0 {G : pj_G} {m B : Int} (h : m ≤ 0) : pj_rd G m B := fun c hc => absurd hc (by omega)
theorem pj_rd_k {G G' : pj_G} {m B : Int} (h : ∀ j, pj_ai G' 181 j = pj_ai G 181 j) (q : pj_rd G m B) : pj_rd G' m B := fun c hc => by
  rw [h, h, h]
  exact q c hc
theorem pj_rd_s {G G' : pj_G} {m B : Int} (q : pj_rd G m B) (r : Nat) (hr : (r : Int) = m) (hold : ∀ j : Nat, j < 4 * r → pj_ai G' 181 j = pj_ai G 181 j) (h0 : 0 ≤ (pj_ai G' 181 (4 * r)).toInt ∧ (pj_ai G' 181 (4 * r)).toInt < B) (h1 : 0 ≤ (pj_ai G' 181 (4 * r + 1)).toInt ∧ (pj_ai G' 181 (4 * r + 1)).toInt < B) (h2 : 0 ≤ (pj_ai G' 181 (4 * r + 2)).toInt) : pj_rd G' (m + 1) B := fun c hc => by
  by_cases e : c = r
  · subst e
    exact ⟨h0, h1, h2⟩
  · rw [hold _ (by omega), hold _ (by omega), hold _ (by omega)]
    exact q c (by omega)
/-- people that were read: their banks -/
def pj_re (G : pj_G) (m : Int) : Prop := ∀ c : Nat, (c : Int) < m → 0 ≤ (pj_ai G 181 (2 * c)).toInt ∧ (pj_ai G 181 (2 * c)).toInt ≤ 7
theorem pj_re_0 {G : pj_G} {m : Int} (h : m ≤ 0) : pj_re G m := fun c hc => absurd hc (by omega)
theorem pj_re_k {G G' : pj_G} {m : Int} (h : ∀ j, pj_ai G' 181 j = pj_ai G 181 j) (q : pj_re G m) : pj_re G' m := fun c hc => by
  rw [h]
  exact q c hc
theorem pj_re_s {G G' : pj_G} {m : Int} (q : pj_re G m) (r : Nat) (hr : (r : Int) = m) (hold : ∀ j : Nat, j < 2 * r → pj_ai G' 181 j = pj_ai G 181 j) (h0 : 0 ≤ (pj_ai G' 181 (2 * r)).toInt ∧ (pj_ai G' 181 (2 * r)).toInt ≤ 7) : pj_re G' (m + 1) := fun c hc => by
  by_cases e : c = r
  · subst e
    exact h0
  · rw [hold _ (by omega)]
    exact q c (by omega)
/-- crossings that were taken over: their banks -/
def pj_ro (G : pj_G) (m B : Int) : Prop := ∀ c : Nat, (c : Int) < m → (pj_ai G 173 c).toInt < B ∧ (pj_ai G 174 c).toInt < B
theorem pj_ro_0 {G : pj_G} {m B : Int} (h : m ≤ 0) : pj_ro G m B := fun c hc => absurd hc (by omega)
theorem pj_ro_s {G G' : pj_G} {m B : Int} (q : pj_ro G m B) (r : Nat) (hr : (r : Int) = m) (hold : ∀ j : Nat, j < r → pj_ai G' 173 j = pj_ai G 173 j ∧ pj_ai G' 174 j = pj_ai G 174 j) (h0 : (pj_ai G' 173 r).toInt < B) (h1 : (pj_ai G' 174 r).toInt < B) : pj_ro G' (m + 1) B := fun c hc => by
  by_cases e : c = r
  · subst e
    exact ⟨h0, h1⟩
  · rw [(hold c (by omega)).1, (hold c (by omega)).2]
    exact q c (by omega)
theorem pj_RI_of {G G0 : pj_G} (h : pj_ro G (pj_fi G 171 4).toInt (pj_fi G 171 3).toInt) (h0 : pj_RI G0) (e1 : pj_fi G 171 26 = pj_fi G0 171 26) (e2 : ∀ j, pj_ai G 182 j = pj_ai G0 182 j) : pj_RI G := by
  refine ⟨h, ?_⟩
  rw [e1, show (fun j => pj_ai G 182 j) = (fun j => pj_ai G0 182 j) from funext e2]
  exact h0.2
theorem pj_ro_k {G G' : pj_G} {m B : Int} (h1 : ∀ j, pj_ai G' 173 j = pj_ai G 173 j) (h2 : ∀ j, pj_ai G' 174 j = pj_ai G 174 j) (q : pj_ro G m B) : pj_ro G' m B := fun c hc => by
  rw [h1, h2]
  exact q c hc
def kc_190 : pj_KT := ([(171, 17), (171, 22), (171, 23)], [171, 181], [181])
theorem ct_190 (G0 : pj_G) (hI : pj_Inv G0) (p0_ : (pj_fi G0 171 22).toInt ≤ 9) : pj_Y 17 190 [.ref 171] G0 (fun v G' => ∃ y : Int32, v = some (.int y) ∧ pj_Inv G' ∧ pj_kpt kc_190 G0 G' ∧ ((0 : Int) ≤ y.toInt ∧ y.toInt ≤ 1) ∧ (((pj_fi G0 171 22).toInt ≤ (pj_fi G' 171 22).toInt ∧ (pj_fi G' 171 22).toInt ≤ (pj_fi G0 171 22).toInt + 1) ∧ (1 ≤ y.toInt → (pj_fi G' 171 22).toInt = (pj_fi G0 171 22).toInt + 1 ∧ (pj_rd G0 (pj_fi G0 171 22).toInt (pj_fi G0 171 21).toInt → pj_rd G' (pj_fi G' 171 22).toInt (pj_fi G' 171 21).toInt)))) := by
  have c0_ : ((Int8.ofInt 58).toInt32).toInt = 58 := by decide
  have c1_ : (Int32.ofInt 0).toInt = 0 := by decide
  have c2_ : (Int32.ofInt 1).toInt = 1 := by decide
  have c3_ : (Int32.ofInt 2).toInt = 2 := by decide
  have c4_ : (Int32.ofInt 3).toInt = 3 := by decide
  have c5_ : (Int32.ofInt 4).toInt = 4 := by decide
  refine pj_Y_X (M := pj_m190) rfl rfl (Nat.le_of_ble_eq_true rfl) ?_
  have hK : pj_kpt kc_190 G0 G0 := pj_kpt_r _ _
  show pj_X _ _ G0 0 [(0, .ref 171)] [] _
  obtain ⟨y1, hy1⟩ : ∃ z : Int32, z = pj_fi G0 171 22 := ⟨_, rfl⟩
  have ey1 : (pj_fi G0 171 22).toInt = y1.toInt := by rw [hy1]
  have ry1 : (0 : Int) ≤ y1.toInt ∧ y1.toInt ≤ 10 := by rw [hy1]; exact hI.2.1 171 22 (0, 10) rfl
  obtain ⟨y2, hy2⟩ : ∃ z : Int32, z = pj_fi G0 171 23 := ⟨_, rfl⟩
  have ey2 : (pj_fi G0 171 23).toInt = y2.toInt := by rw [hy2]
  have ry2 : (-1 : Int) ≤ y2.toInt ∧ y2.toInt ≤ 7 := by rw [hy2]; exact hI.2.1 171 23 (-1, 7) rfl
  obtain ⟨y3, hy3⟩ : ∃ z : Int32, z = pj_fi G0 171 21 := ⟨_, rfl⟩
  have ey3 : (pj_fi G0 171 21).toInt = y3.toInt := by rw [hy3]
  have ry3 : (0 : Int) ≤ y3.toInt ∧ y3.toInt ≤ 8 := by rw [hy3]; exact hI.2.1 171 21 (0, 8) rfl
  refine pj_X_of (fun r h => pj_R_to (G0, 2, [(0, .ref 171)], [.ref 171, .int (Int32.ofInt 4)], 0, 0) 2 3 (fun _ => rfl) h) ?_
  refine pj_X_of (fun r h => pj_T_gi hI rfl rfl h) ?_
  show pj_X _ _ G0 5 [(0, .ref 171)] [.int (pj_fi G0 171 22), .int (Int32.ofInt 4)] _
  refine pj_X_eqi (show pj_fi G0 171 22 = y1 from hy1.symm) ?_
  refine pj_X_of (fun r h => pj_R_to (G0, 6, [(0, .ref 171)], [.int ((Int32.ofInt 4) * y1)], 0, 0) 6 2 (fun _ => rfl) h) ?_
  obtain ⟨z4, hz4⟩ : ∃ z : Int32, z = (Int32.ofInt 4) * y1 := ⟨_, rfl⟩
  refine pj_X_eqi hz4.symm ?_
  have fz4_0 : z4.toInt = 4 * y1.toInt := by rw [hz4]; exact pj_mulL (by decide) (by omega) (by omega)
  refine pj_X_of (fun r h => pj_R_to (G0, 8, [(1, .int z4), (0, .ref 171)], [.ref 171], 0, 0) 8 3 (fun _ => rfl) h) ?_
  refine pj_X_of (fun r h => pj_T_gr hI rfl rfl rfl h) ?_
  refine pj_X_of (fun r h => pj_R_to (G0, 14, [(1, .int z4), (0, .ref 171)], [.int (z4 + (Int32.ofInt 1)), .ref 181], 0, 0) 14 4 (fun _ => rfl) h) ?_
  obtain ⟨z5, hz5⟩ : ∃ z : Int32, z = z4 + (Int32.ofInt 1) := ⟨_, rfl⟩
  refine pj_X_eqi hz5.symm ?_
  have fz5_0 : z5.toInt = z4.toInt + (Int32.ofInt 1).toInt := by rw [hz5]; exact pj_addI (by have := pj_i32 z4; have := pj_i32 (Int32.ofInt 1); omega) (by have := pj_i32 z4; have := pj_i32 (Int32.ofInt 1); omega)
  refine pj_X_of (fun r h => pj_R_to (G0, 16, [(1, .int z4), (0, .ref 171)], [.ref 171, .ref 171, .int z5, .ref 181], 0, 0) 16 3 (fun _ => rfl) h) ?_
  refine pj_X_of (fun r h => pj_T_gi hI rfl rfl h) ?_
  show pj_X _ _ G0 19 [(1, .int z4), (0, .ref 171)] [.int (pj_fi G0 171 21), .ref 171, .int z5, .ref 181] _
  refine pj_X_eqi (show pj_fi G0 171 21 = y3 from hy3.symm) ?_
  have q6 : (pj_fi G0 171 22).toInt = y1.toInt := by rw [show pj_fi G0 171 22 = y1 from hy1.symm]
  have q7 : (pj_fi G0 171 23).toInt = y2.toInt := by rw [show pj_fi G0 171 23 = y2 from hy2.symm]
  have q8 : (pj_fi G0 171 21).toInt = y3.toInt := by rw [show pj_fi G0 171 21 = y3 from hy3.symm]
  refine pj_X_ca (vs := [.ref 171, .int y3]) rfl (fun _ => rfl) ⟨Nat.le_of_ble_eq_true rfl, Nat.le_of_ble_eq_true rfl, pj_T_rcv hI rfl⟩ ⟨rfl, rfl⟩ (pj_Y_up (by decide) (ct_189 G0 hI y3 ⟨by omega, by omega⟩)) ?_
  rintro _ G10 ⟨y9, rfl, iG10, jG10, ry9, ey9⟩
  have kG10 : pj_kpt kc_190 G0 G10 := pj_kpt_t hK (pj_kpt_s jG10 rfl)
  have q11 : (pj_fi G10 171 22).toInt = (pj_fi G0 171 22).toInt := by rw [jG10.1 (171, 22) (by decide)]
  have q12 : (pj_fi G10 171 21).toInt = (pj_fi G0 171 21).toInt := by rw [jG10.1 (171, 21) (by decide)]
  obtain ⟨y13, hy13⟩ : ∃ z : Int32, z = pj_fi G10 171 22 := ⟨_, rfl⟩
  have ey13 : (pj_fi G10 171 22).toInt = y13.toInt := by rw [hy13]
  have ry13 : (0 : Int) ≤ y13.toInt ∧ y13.toInt ≤ 10 := by rw [hy13]; exact iG10.2.1 171 22 (0, 10) rfl
  obtain ⟨y14, hy14⟩ : ∃ z : Int32, z = pj_fi G10 171 23 := ⟨_, rfl⟩
  have ey14 : (pj_fi G10 171 23).toInt = y14.toInt := by rw [hy14]
  have ry14 : (-1 : Int) ≤ y14.toInt ∧ y14.toInt ≤ 7 := by rw [hy14]; exact iG10.2.1 171 23 (-1, 7) rfl
  obtain ⟨y15, hy15⟩ : ∃ z : Int32, z = pj_fi G10 171 21 := ⟨_, rfl⟩
  have ey15 : (pj_fi G10 171 21).toInt = y15.toInt := by rw [hy15]
  have ry15 : (0 : Int) ≤ y15.toInt ∧ y15.toInt ≤ 8 := by rw [hy15]; exact iG10.2.1 171 21 (0, 8) rfl
  show pj_X _ _ G10 22 [(1, .int z4), (0, .ref 171)] [.int y9, .int z5, .ref 181] _
  refine pj_X_of (fun r h => pj_T_is iG10 rfl rfl (by omega) (by omega) h) ?_
  show pj_X _ _ (pj_wa G10 181 z5.toInt.toNat y9) 23 [(1, .int z4), (0, .ref 171)] [] _
  obtain ⟨G16, hG16⟩ : ∃ H, H = pj_wa G10 181 z5.toInt.toNat y9 := ⟨_, rfl⟩
  have iG16 : pj_Inv G16 := by rw [hG16]; exact pj_Inv_wa iG10 rfl (fun q hq => by cases hq; exact ⟨by show (-1 : Int) ≤ _; omega, by show _ ≤ (99 : Int); omega, by show _ ≤ (-1 : Int) ∨ (-1 : Int) ≤ _; omega⟩) (fun n hn => by cases hn)
  have kG16 : pj_kpt kc_190 G0 G16 := by rw [hG16]; exact pj_kpt_a kG10 rfl
  rw [← hG16]
  refine pj_X_of (fun r h => pj_R_to (G16, 24, [(1, .int z4), (0, .ref 171)], [.ref 171], 0, 0) 24 2 (fun _ => rfl) h) ?_
  refine pj_X_of (fun r h => pj_T_gr iG16 rfl rfl rfl h) ?_
  refine pj_X_of (fun r h => pj_R_to (G16, 29, [(1, .int z4), (0, .ref 171)], [.ref 171, .int z4, .ref 181], 0, 0) 29 3 (fun _ => rfl) h) ?_
  refine pj_X_of (fun r h => pj_T_gi iG16 rfl rfl h) ?_
  show pj_X _ _ G16 32 [(1, .int z4), (0, .ref 171)] [.int (pj_fi G16 171 23), .int z4, .ref 181] _
  refine pj_X_eqi (show pj_fi G16 171 23 = y14 from by rw [hG16, pj_fi_wa]; exact hy14.symm) ?_
  refine pj_X_of (fun r h => pj_T_is iG16 rfl rfl (by omega) (by omega) h) ?_
  show pj_X _ _ (pj_wa G16 181 z4.toInt.toNat y14) 33 [(1, .int z4), (0, .ref 171)] [] _
  obtain ⟨G17, hG17⟩ : ∃ H, H = pj_wa G16 181 z4.toInt.toNat y14 := ⟨_, rfl⟩
  have iG17 : pj_Inv G17 := by rw [hG17]; exact pj_Inv_wa iG16 rfl (fun q hq => by cases hq; exact ⟨by show (-1 : Int) ≤ _; omega, by show _ ≤ (99 : Int); omega, by show _ ≤ (-1 : Int) ∨ (-1 : Int) ≤ _; omega⟩) (fun n hn => by cases hn)
  have kG17 : pj_kpt kc_190 G0 G17 := by rw [hG17]; exact pj_kpt_a kG16 rfl
  rw [← hG17]
  refine pj_X_of (fun r h => pj_R_to (G17, 34, [(1, .int z4), (0, .ref 171)], [.ref 171], 0, 0) 34 2 (fun _ => rfl) h) ?_
  refine pj_X_of (fun r h => pj_T_gr iG17 rfl rfl rfl h) ?_
  refine pj_X_of (fun r h => pj_R_to (G17, 40, [(1, .int z4), (0, .ref 171)], [.int (z4 + (Int32.ofInt 1)), .ref 181], 0, 0) 40 4 (fun _ => rfl) h) ?_
  obtain ⟨z18, hz18⟩ : ∃ z : Int32, z = z4 + (Int32.ofInt 1) := ⟨_, rfl⟩
  refine pj_X_eqi hz18.symm ?_
  have fz18_0 : z18.toInt = z4.toInt + (Int32.ofInt 1).toInt := by rw [hz18]; exact pj_addI (by have := pj_i32 z4; have := pj_i32 (Int32.ofInt 1); omega) (by have := pj_i32 z4; have := pj_i32 (Int32.ofInt 1); omega)
  refine pj_X_of (fun r h => pj_T_il iG17 rfl rfl (by omega) (by omega) h) ?_
  show pj_X _ _ G17 41 [(1, .int z4), (0, .ref 171)] [.int (pj_ai G17 181 z18.toInt.toNat)] _
  obtain ⟨z19, hz19⟩ : ∃ z : Int32, z = pj_ai G17 181 z18.toInt.toNat := ⟨_, rfl⟩
  refine pj_X_eqi hz19.symm ?_
  have ez19 : (pj_ai G17 181 z18.toInt.toNat).toInt = z19.toInt := by rw [hz19]
  have fz19_0 : (-1 : Int) ≤ z19.toInt ∧ z19.toInt ≤ 99 ∧ (z19.toInt ≤ -1 ∨ -1 ≤ z19.toInt) := by rw [hz19]; exact iG17.2.2.1 181 (40, -1, 99, -1, -1) rfl _ (by show _ < 40; omega)
  have x20 : z19.toInt = y9.toInt := by rw [hz19, hG17, pj_ai_wa_nj _ _ _ _ _ (by omega), show z18.toInt.toNat = z5.toInt.toNat by omega, hG16, pj_ai_wa_eq iG10.1 rfl]
  cases b21 : pj_c1 .ge z19 0 with
  | true =>
    have ub21 := pj_u0_geT b21
    refine pj_X_of (fun r h => pj_R_ifT 46 rfl rfl b21 h) ?_
    refine pj_X_of (fun r h => pj_R_to (G17, 47, [(1, .int z4), (0, .ref 171)], [.ref 171], 0, 0) 47 2 (fun _ => rfl) h) ?_
    refine pj_X_of (fun r h => pj_T_gr iG17 rfl rfl rfl h) ?_
    refine pj_X_of (fun r h => pj_R_to (G17, 53, [(1, .int z4), (0, .ref 171)], [.int (z4 + (Int32.ofInt 2)), .ref 181], 0, 0) 53 4 (fun _ => rfl) h) ?_
    obtain ⟨z22, hz22⟩ : ∃ z : Int32, z = z4 + (Int32.ofInt 2) := ⟨_, rfl⟩
    refine pj_X_eqi hz22.symm ?_
    have fz22_0 : z22.toInt = z4.toInt + (Int32.ofInt 2).toInt := by rw [hz22]; exact pj_addI (by have := pj_i32 z4; have := pj_i32 (Int32.ofInt 2); omega) (by have := pj_i32 z4; have := pj_i32 (Int32.ofInt 2); omega)
    refine pj_X_of (fun r h => pj_R_to (G17, 55, [(1, .int z4), (0, .ref 171)], [.int (Int32.ofInt 2), .ref 171, .int z22, .ref 181], 0, 0) 55 3 (fun _ => rfl) h) ?_
    have q23 : (pj_fi G17 171 22).toInt = y13.toInt := by rw [show pj_fi G17 171 22 = y13 from by rw [hG17, pj_fi_wa]; exact (by rw [hG16, pj_fi_wa]; exact hy13.symm)]
    have q24 : (pj_fi G17 171 23).toInt = y14.toInt := by rw [show pj_fi G17 171 23 = y14 from by rw [hG17, pj_fi_wa]; exact (by rw [hG16, pj_fi_wa]; exact hy14.symm)]
    have q25 : (pj_fi G17 171 21).toInt = y15.toInt := by rw [show pj_fi G17 171 21 = y15 from by rw [hG17, pj_fi_wa]; exact (by rw [hG16, pj_fi_wa]; exact hy15.symm)]
    refine pj_X_ca (vs := [.ref 171, .int (Int32.ofInt 2)]) rfl (fun _ => rfl) ⟨Nat.le_of_ble_eq_true rfl, Nat.le_of_ble_eq_true rfl, pj_T_rcv iG17 rfl⟩ ⟨rfl, rfl⟩ (pj_Y_up (by decide) (ct_186 G17 iG17 (Int32.ofInt 2) ⟨by omega, by omega⟩)) ?_
    rintro _ G27 ⟨y26, rfl, iG27, jG27, ry26, ey26⟩
    have kG27 : pj_kpt kc_190 G0 G27 := pj_kpt_t kG17 (pj_kpt_s jG27 rfl)
    have q28 : (pj_fi G27 171 22).toInt = (pj_fi G17 171 22).toInt := by rw [jG27.1 (171, 22) (by decide)]
    have q29 : (pj_fi G27 171 23).toInt = (pj_fi G17 171 23).toInt := by rw [jG27.1 (171, 23) (by decide)]
    have q30 : (pj_fi G27 171 21).toInt = (pj_fi G17 171 21).toInt := by rw [jG27.1 (171, 21) (by decide)]
    obtain ⟨y31, hy31⟩ : ∃ z : Int32, z = pj_fi G27 171 22 := ⟨_, rfl⟩
    have ey31 : (pj_fi G27 171 22).toInt = y31.toInt := by rw [hy31]
    have ry31 : (0 : Int) ≤ y31.toInt ∧ y31.toInt ≤ 10 := by rw [hy31]; exact iG27.2.1 171 22 (0, 10) rfl
    obtain ⟨y32, hy32⟩ : ∃ z : Int32, z = pj_fi G27 171 23 := ⟨_, rfl⟩
    have ey32 : (pj_fi G27 171 23).toInt = y32.toInt := by rw [hy32]
    have ry32 : (-1 : Int) ≤ y32.toInt ∧ y32.toInt ≤ 7 := by rw [hy32]; exact iG27.2.1 171 23 (-1, 7) rfl
    obtain ⟨y33, hy33⟩ : ∃ z : Int32, z = pj_fi G27 171 21 := ⟨_, rfl⟩
    have ey33 : (pj_fi G27 171 21).toInt = y33.toInt := by rw [hy33]
    have ry33 : (0 : Int) ≤ y33.toInt ∧ y33.toInt ≤ 8 := by rw [hy33]; exact iG27.2.1 171 21 (0, 8) rfl
    show pj_X _ _ G27 58 [(1, .int z4), (0, .ref 171)] [.int y26, .int z22, .ref 181] _
    refine pj_X_of (fun r h => pj_T_is iG27 rfl rfl (by omega) (by omega) h) ?_
    show pj_X _ _ (pj_wa G27 181 z22.toInt.toNat y26) 59 [(1, .int z4), (0, .ref 171)] [] _
    obtain ⟨G34, hG34⟩ : ∃ H, H = pj_wa G27 181 z22.toInt.toNat y26 := ⟨_, rfl⟩
    have iG34 : pj_Inv G34 := by rw [hG34]; exact pj_Inv_wa iG27 rfl (fun q hq => by cases hq; exact ⟨by show (-1 : Int) ≤ _; omega, by show _ ≤ (99 : Int); omega, by show _ ≤ (-1 : Int) ∨ (-1 : Int) ≤ _; omega⟩) (fun n hn => by cases hn)
    have kG34 : pj_kpt kc_190 G0 G34 := by rw [hG34]; exact pj_kpt_a kG27 rfl
    rw [← hG34]
    refine pj_X_of (fun r h => pj_R_to (G34, 60, [(1, .int z4), (0, .ref 171)], [.ref 171], 0, 0) 60 2 (fun _ => rfl) h) ?_
    refine pj_X_of (fun r h => pj_T_gr iG34 rfl rfl rfl h) ?_
    refine pj_X_of (fun r h => pj_R_to (G34, 66, [(1, .int z4), (0, .ref 171)], [.int (z4 + (Int32.ofInt 2)), .ref 181], 0, 0) 66 4 (fun _ => rfl) h) ?_
    obtain ⟨z35, hz35⟩ : ∃ z : Int32, z = z4 + (Int32.ofInt 2) := ⟨_, rfl⟩
    refine pj_X_eqi hz35.symm ?_
    have fz35_0 : z35.toInt = z4.toInt + (Int32.ofInt 2).toInt := by rw [hz35]; exact pj_addI (by have := pj_i32 z4; have := pj_i32 (Int32.ofInt 2); omega) (by have := pj_i32 z4; have := pj_i32 (Int32.ofInt 2); omega)
    refine pj_X_of (fun r h => pj_T_il iG34 rfl rfl (by omega) (by omega) h) ?_
    show pj_X _ _ G34 67 [(1, .int z4), (0, .ref 171)] [.int (pj_ai G34 181 z35.toInt.toNat)] _
    obtain ⟨z36, hz36⟩ : ∃ z : Int32, z = pj_ai G34 181 z35.toInt.toNat := ⟨_, rfl⟩
    refine pj_X_eqi hz36.symm ?_
    have ez36 : (pj_ai G34 181 z35.toInt.toNat).toInt = z36.toInt := by rw [hz36]
    have fz36_0 : (-1 : Int) ≤ z36.toInt ∧ z36.toInt ≤ 99 ∧ (z36.toInt ≤ -1 ∨ -1 ≤ z36.toInt) := by rw [hz36]; exact iG34.2.2.1 181 (40, -1, 99, -1, -1) rfl _ (by show _ < 40; omega)
    have x37 : z36.toInt = y26.toInt := by rw [hz36, show z35.toInt.toNat = z22.toInt.toNat by omega, hG34, pj_ai_wa_eq iG27.1 rfl]
    cases b38 : pj_c1 .lt z36 0 with
    | true =>
      have ub38 := pj_u0_ltT b38
      refine pj_X_of (fun r h => pj_R_ifT 79 rfl rfl b38 h) ?_
      refine pj_X_of (fun r h => pj_R_to (G34, 80, [(1, .int z4), (0, .ref 171)], [.int (Int32.ofInt 0)], 0, 0) 80 2 (fun _ => rfl) h) ?_
      have q39 : (pj_fi G34 171 22).toInt = y31.toInt := by rw [show pj_fi G34 171 22 = y31 from by rw [hG34, pj_fi_wa]; exact hy31.symm]
      have q40 : (pj_fi G34 171 23).toInt = y32.toInt := by rw [show pj_fi G34 171 23 = y32 from by rw [hG34, pj_fi_wa]; exact hy32.symm]
      have q41 : (pj_fi G34 171 21).toInt = y33.toInt := by rw [show pj_fi G34 171 21 = y33 from by rw [hG34, pj_fi_wa]; exact hy33.symm]
      exact pj_X_rt rfl rfl ⟨_, rfl, iG34, kG34, ⟨by omega, by omega⟩, ⟨by omega, fun q => absurd q (by omega)⟩⟩
    | false =>
      have ub38 := pj_u0_ltF b38
      refine pj_X_of (fun r h => pj_R_ifF rfl b38 h) ?_
      refine pj_X_of (fun r h => pj_R_to (G34, 73, [(1, .int z4), (0, .ref 171)], [.int ((Int8.ofInt 58).toInt32), .ref 171], 0, 0) 73 3 (fun _ => rfl) h) ?_
      have q42 : (pj_fi G34 171 22).toInt = y31.toInt := by rw [show pj_fi G34 171 22 = y31 from by rw [hG34, pj_fi_wa]; exact hy31.symm]
      have q43 : (pj_fi G34 171 23).toInt = y32.toInt := by rw [show pj_fi G34 171 23 = y32 from by rw [hG34, pj_fi_wa]; exact hy32.symm]
      have q44 : (pj_fi G34 171 21).toInt = y33.toInt := by rw [show pj_fi G34 171 21 = y33 from by rw [hG34, pj_fi_wa]; exact hy33.symm]
      refine pj_X_ca (vs := [.ref 171, .int ((Int8.ofInt 58).toInt32)]) rfl (fun _ => rfl) ⟨Nat.le_of_ble_eq_true rfl, Nat.le_of_ble_eq_true rfl, pj_T_rcv iG34 rfl⟩ ⟨rfl, rfl⟩ (pj_Y_up (by decide) (ct_182 G34 iG34 ((Int8.ofInt 58).toInt32) ⟨by omega, by omega⟩)) ?_
      rintro _ G46 ⟨y45, rfl, iG46, jG46, ry45, ey45⟩
      have kG46 : pj_kpt kc_190 G0 G46 := pj_kpt_t kG34 (pj_kpt_s jG46 rfl)
      have q47 : (pj_fi G46 171 22).toInt = (pj_fi G34 171 22).toInt := by rw [jG46.1 (171, 22) (by decide)]
      have q48 : (pj_fi G46 171 23).toInt = (pj_fi G34 171 23).toInt := by rw [jG46.1 (171, 23) (by decide)]
      have q49 : (pj_fi G46 171 21).toInt = (pj_fi G34 171 21).toInt := by rw [jG46.1 (171, 21) (by decide)]
      obtain ⟨y50, hy50⟩ : ∃ z : Int32, z = pj_fi G46 171 22 := ⟨_, rfl⟩
      have ey50 : (pj_fi G46 171 22).toInt = y50.toInt := by rw [hy50]
      have ry50 : (0 : Int) ≤ y50.toInt ∧ y50.toInt ≤ 10 := by rw [hy50]; exact iG46.2.1 171 22 (0, 10) rfl
      obtain ⟨y51, hy51⟩ : ∃ z : Int32, z = pj_fi G46 171 23 := ⟨_, rfl⟩
      have ey51 : (pj_fi G46 171 23).toInt = y51.toInt := by rw [hy51]
      have ry51 : (-1 : Int) ≤ y51.toInt ∧ y51.toInt ≤ 7 := by rw [hy51]; exact iG46.2.1 171 23 (-1, 7) rfl
      obtain ⟨y52, hy52⟩ : ∃ z : Int32, z = pj_fi G46 171 21 := ⟨_, rfl⟩
      have ey52 : (pj_fi G46 171 21).toInt = y52.toInt := by rw [hy52]
      have ry52 : (0 : Int) ≤ y52.toInt ∧ y52.toInt ≤ 8 := by rw [hy52]; exact iG46.2.1 171 21 (0, 8) rfl
      show pj_X _ _ G46 76 [(1, .int z4), (0, .ref 171)] [.int y45] _
      cases b53 : pj_c1 .ne y45 0 with
      | true =>
        have ub53 := pj_u0_neT b53
        refine pj_X_of (fun r h => pj_R_ifT 81 rfl rfl b53 h) ?_
        refine pj_X_of (fun r h => pj_R_to (G46, 82, [(1, .int z4), (0, .ref 171)], [.ref 171], 0, 0) 82 2 (fun _ => rfl) h) ?_
        refine pj_X_of (fun r h => pj_T_gr iG46 rfl rfl rfl h) ?_
        refine pj_X_of (fun r h => pj_R_to (G46, 88, [(1, .int z4), (0, .ref 171)], [.int (z4 + (Int32.ofInt 3)), .ref 181], 0, 0) 88 4 (fun _ => rfl) h) ?_
        obtain ⟨z54, hz54⟩ : ∃ z : Int32, z = z4 + (Int32.ofInt 3) := ⟨_, rfl⟩
        refine pj_X_eqi hz54.symm ?_
        have fz54_0 : z54.toInt = z4.toInt + (Int32.ofInt 3).toInt := by rw [hz54]; exact pj_addI (by have := pj_i32 z4; have := pj_i32 (Int32.ofInt 3); omega) (by have := pj_i32 z4; have := pj_i32 (Int32.ofInt 3); omega)
        refine pj_X_of (fun r h => pj_R_to (G46, 92, [(1, .int z4), (0, .ref 171)], [.retAddr 9, .ref 171, .int (Int32.ofInt 1), .int z54, .ref 181], 0, 0) 92 4 (fun _ => rfl) h) ?_
        have q55 : (pj_fi G46 171 22).toInt = y50.toInt := by rw [show pj_fi G46 171 22 = y50 from hy50.symm]
        have q56 : (pj_fi G46 171 23).toInt = y51.toInt := by rw [show pj_fi G46 171 23 = y51 from hy51.symm]
        have q57 : (pj_fi G46 171 21).toInt = y52.toInt := by rw [show pj_fi G46 171 21 = y52 from hy52.symm]
        refine pj_X_ca (vs := [.ref 171, .retAddr 9]) rfl (fun _ => rfl) ⟨Nat.le_of_ble_eq_true rfl, Nat.le_of_ble_eq_true rfl, pj_T_rcv iG46 rfl⟩ ⟨rfl, rfl⟩ (pj_Y_up (by decide) (ct_185_s9 G46 iG46)) ?_
        rintro _ G59 ⟨y58, rfl, iG59, jG59, ry58, ey58⟩
        have kG59 : pj_kpt kc_190 G0 G59 := pj_kpt_t kG46 (pj_kpt_s jG59 rfl)
        have q60 : (pj_fi G59 171 22).toInt = (pj_fi G46 171 22).toInt := by rw [jG59.1 (171, 22) (by decide)]
        have q61 : (pj_fi G59 171 23).toInt = (pj_fi G46 171 23).toInt := by rw [jG59.1 (171, 23) (by decide)]
        have q62 : (pj_fi G59 171 21).toInt = (pj_fi G46 171 21).toInt := by rw [jG59.1 (171, 21) (by decide)]
        obtain ⟨y63, hy63⟩ : ∃ z : Int32, z = pj_fi G59 171 22 := ⟨_, rfl⟩
        have ey63 : (pj_fi G59 171 22).toInt = y63.toInt := by rw [hy63]
        have ry63 : (0 : Int) ≤ y63.toInt ∧ y63.toInt ≤ 10 := by rw [hy63]; exact iG59.2.1 171 22 (0, 10) rfl
        obtain ⟨y64, hy64⟩ : ∃ z : Int32, z = pj_fi G59 171 23 := ⟨_, rfl⟩
        have ey64 : (pj_fi G59 171 23).toInt = y64.toInt := by rw [hy64]
        have ry64 : (-1 : Int) ≤ y64.toInt ∧ y64.toInt ≤ 7 := by rw [hy64]; exact iG59.2.1 171 23 (-1, 7) rfl
        obtain ⟨y65, hy65⟩ : ∃ z : Int32, z = pj_fi G59 171 21 := ⟨_, rfl⟩
        have ey65 : (pj_fi G59 171 21).toInt = y65.toInt := by rw [hy65]
        have ry65 : (0 : Int) ≤ y65.toInt ∧ y65.toInt ≤ 8 := by rw [hy65]; exact iG59.2.1 171 21 (0, 8) rfl
        show pj_X _ _ G59 95 [(1, .int z4), (0, .ref 171)] [.int y58, .int (Int32.ofInt 1), .int z54, .ref 181] _
        refine pj_X_of (fun r h => pj_R_to (G59, 96, [(1, .int z4), (0, .ref 171)], [.int ((Int32.ofInt 1) + y58), .int z54, .ref 181], 0, 0) 96 2 (fun _ => rfl) h) ?_
        obtain ⟨z66, hz66⟩ : ∃ z : Int32, z = (Int32.ofInt 1) + y58 := ⟨_, rfl⟩
        refine pj_X_eqi hz66.symm ?_
        have fz66_0 : z66.toInt = (Int32.ofInt 1).toInt + y58.toInt := by rw [hz66]; exact pj_addI (by have := pj_i32 (Int32.ofInt 1); have := pj_i32 y58; omega) (by have := pj_i32 (Int32.ofInt 1); have := pj_i32 y58; omega)
        refine pj_X_of (fun r h => pj_T_is iG59 rfl rfl (by omega) (by omega) h) ?_
        show pj_X _ _ (pj_wa G59 181 z54.toInt.toNat z66) 97 [(1, .int z4), (0, .ref 171)] [] _
        obtain ⟨G67, hG67⟩ : ∃ H, H = pj_wa G59 181 z54.toInt.toNat z66 := ⟨_, rfl⟩
        have iG67 : pj_Inv G67 := by rw [hG67]; exact pj_Inv_wa iG59 rfl (fun q hq => by cases hq; exact ⟨by show (-1 : Int) ≤ _; omega, by show _ ≤ (99 : Int); omega, by show _ ≤ (-1 : Int) ∨ (-1 : Int) ≤ _; omega⟩) (fun n hn => by cases hn)
        have kG67 : pj_kpt kc_190 G0 G67 := by rw [hG67]; exact pj_kpt_a kG59 rfl
        rw [← hG67]
        refine pj_X_of (fun r h => pj_R_to (G67, 99, [(1, .int z4), (0, .ref 171)], [.ref 171, .ref 171], 0, 0) 99 3 (fun _ => rfl) h) ?_
        refine pj_X_of (fun r h => pj_T_gi iG67 rfl rfl h) ?_
        show pj_X _ _ G67 102 [(1, .int z4), (0, .ref 171)] [.int (pj_fi G67 171 22), .ref 171] _
        refine pj_X_eqi (show pj_fi G67 171 22 = y63 from by rw [hG67, pj_fi_wa]; exact hy63.symm) ?_
        refine pj_X_of (fun r h => pj_R_to (G67, 104, [(1, .int z4), (0, .ref 171)], [.int (y63 + (Int32.ofInt 1)), .ref 171], 0, 0) 104 3 (fun _ => rfl) h) ?_
        obtain ⟨z68, hz68⟩ : ∃ z : Int32, z = y63 + (Int32.ofInt 1) := ⟨_, rfl⟩
        refine pj_X_eqi hz68.symm ?_
        have fz68_0 : z68.toInt = y63.toInt + (Int32.ofInt 1).toInt := by rw [hz68]; exact pj_addI (by have := pj_i32 y63; have := pj_i32 (Int32.ofInt 1); omega) (by have := pj_i32 y63; have := pj_i32 (Int32.ofInt 1); omega)
        refine pj_X_of (fun r h => pj_T_pf iG67 rfl rfl rfl h) ?_
        show pj_X _ _ (pj_wv G67 171 22 (.int z68)) 107 [(1, .int z4), (0, .ref 171)] [] _
        obtain ⟨G69, hG69⟩ : ∃ H, H = pj_wv G67 171 22 (.int z68) := ⟨_, rfl⟩
        have iG69 : pj_Inv G69 := by rw [hG69]; exact pj_Inv_wi iG67 (ci := 12) rfl (fun q hq => by cases hq; exact ⟨by show (0 : Int) ≤ _; omega, by show _ ≤ (10 : Int); omega⟩)
        have kG69 : pj_kpt kc_190 G0 G69 := by rw [hG69]; exact pj_kpt_v kG67 rfl
        rw [← hG69]
        refine pj_X_of (fun r h => pj_R_to (G69, 108, [(1, .int z4), (0, .ref 171)], [.ref 171], 0, 0) 108 2 (fun _ => rfl) h) ?_
        refine pj_X_of (fun r h => pj_T_gr iG69 rfl rfl rfl h) ?_
        refine pj_X_of (fun r h => pj_R_to (G69, 114, [(1, .int z4), (0, .ref 171)], [.int (z4 + (Int32.ofInt 3)), .ref 181], 0, 0) 114 4 (fun _ => rfl) h) ?_
        obtain ⟨z70, hz70⟩ : ∃ z : Int32, z = z4 + (Int32.ofInt 3) := ⟨_, rfl⟩
        refine pj_X_eqi hz70.symm ?_
        have fz70_0 : z70.toInt = z4.toInt + (Int32.ofInt 3).toInt := by rw [hz70]; exact pj_addI (by have := pj_i32 z4; have := pj_i32 (Int32.ofInt 3); omega) (by have := pj_i32 z4; have := pj_i32 (Int32.ofInt 3); omega)
        refine pj_X_of (fun r h => pj_T_il iG69 rfl rfl (by omega) (by omega) h) ?_
        show pj_X _ _ G69 115 [(1, .int z4), (0, .ref 171)] [.int (pj_ai G69 181 z70.toInt.toNat)] _
        obtain ⟨z71, hz71⟩ : ∃ z : Int32, z = pj_ai G69 181 z70.toInt.toNat := ⟨_, rfl⟩
        refine pj_X_eqi hz71.symm ?_
        have ez71 : (pj_ai G69 181 z70.toInt.toNat).toInt = z71.toInt := by rw [hz71]
        have fz71_0 : (-1 : Int) ≤ z71.toInt ∧ z71.toInt ≤ 99 ∧ (z71.toInt ≤ -1 ∨ -1 ≤ z71.toInt) := by rw [hz71]; exact iG69.2.2.1 181 (40, -1, 99, -1, -1) rfl _ (by show _ < 40; omega)
        have x72 : z71.toInt = z66.toInt := by rw [hz71, hG69, pj_ai_wv, show z70.toInt.toNat = z54.toInt.toNat by omega, hG67, pj_ai_wa_eq iG59.1 rfl]
        cases b73 : pj_c1 .le z71 0 with
        | true =>
          have ub73 := pj_u0_leT b73
          refine pj_X_of (fun r h => pj_R_ifT 122 rfl rfl b73 h) ?_
          refine pj_X_of (fun r h => pj_R_to (G69, 123, [(1, .int z4), (0, .ref 171)], [.int (Int32.ofInt 0)], 0, 0) 123 2 (fun _ => rfl) h) ?_
          have q74 : (pj_fi G69 171 22).toInt = z68.toInt := by rw [show pj_fi G69 171 22 = z68 from by rw [hG69]; exact pj_fi_wi iG67.1 (ci := 12) rfl _]
          have q75 : (pj_fi G69 171 23).toInt = y64.toInt := by rw [show pj_fi G69 171 23 = y64 from by rw [hG69, pj_fi_wv_ne _ _ _ _ _ _ (by decide)]; exact (by rw [hG67, pj_fi_wa]; exact hy64.symm)]
          have q76 : (pj_fi G69 171 21).toInt = y65.toInt := by rw [show pj_fi G69 171 21 = y65 from by rw [hG69, pj_fi_wv_ne _ _ _ _ _ _ (by decide)]; exact (by rw [hG67, pj_fi_wa]; exact hy65.symm)]
          exact pj_X_rt rfl rfl ⟨_, rfl, iG69, kG69, ⟨by omega, by omega⟩, ⟨by omega, fun q => absurd q (by omega)⟩⟩
        | false =>
          have ub73 := pj_u0_leF b73
          refine pj_X_of (fun r h => pj_R_ifF rfl b73 h) ?_
          refine pj_X_of (fun r h => pj_R_to (G69, 123, [(1, .int z4), (0, .ref 171)], [.int (Int32.ofInt 1)], 0, 0) 123 3 (fun _ => rfl) h) ?_
          have q77 : (pj_fi G69 171 22).toInt = z68.toInt := by rw [show pj_fi G69 171 22 = z68 from by rw [hG69]; exact pj_fi_wi iG67.1 (ci := 12) rfl _]
          have q78 : (pj_fi G69 171 23).toInt = y64.toInt := by rw [show pj_fi G69 171 23 = y64 from by rw [hG69, pj_fi_wv_ne _ _ _ _ _ _ (by decide)]; exact (by rw [hG67, pj_fi_wa]; exact hy64.symm)]
          have q79 : (pj_fi G69 171 21).toInt = y65.toInt := by rw [show pj_fi G69 171 21 = y65 from by rw [hG69, pj_fi_wv_ne _ _ _ _ _ _ (by decide)]; exact (by rw [hG67, pj_fi_wa]; exact hy65.symm)]
          have v80 : (pj_ai G69 181 (4 * y1.toInt.toNat)).toInt = y14.toInt := by rw [show 4 * y1.toInt.toNat = z4.toInt.toNat by omega, hG69, pj_ai_wv, hG67, pj_ai_wa_nj _ _ _ _ _ (by omega), jG59.2.2 181 (by decide), jG46.2.2 181 (by decide), hG34, pj_ai_wa_nj _ _ _ _ _ (by omega), jG27.2.2 181 (by decide), hG17, pj_ai_wa_eq iG16.1 rfl]
          have v81 : (pj_ai G69 181 (4 * y1.toInt.toNat + 1)).toInt = y9.toInt := by rw [show 4 * y1.toInt.toNat + 1 = z5.toInt.toNat by omega, hG69, pj_ai_wv, hG67, pj_ai_wa_nj _ _ _ _ _ (by omega), jG59.2.2 181 (by decide), jG46.2.2 181 (by decide), hG34, pj_ai_wa_nj _ _ _ _ _ (by omega), jG27.2.2 181 (by decide), hG17, pj_ai_wa_nj _ _ _ _ _ (by omega), hG16, pj_ai_wa_eq iG10.1 rfl]
          have v82 : (pj_ai G69 181 (4 * y1.toInt.toNat + 2)).toInt = y26.toInt := by rw [show 4 * y1.toInt.toNat + 2 = z22.toInt.toNat by omega, hG69, pj_ai_wv, hG67, pj_ai_wa_nj _ _ _ _ _ (by omega), jG59.2.2 181 (by decide), jG46.2.2 181 (by decide), hG34, pj_ai_wa_eq iG27.1 rfl]
          have hold : ∀ j : Nat, j < 4 * y1.toInt.toNat → pj_ai G69 181 j = pj_ai G0 181 j := fun j hj => by rw [hG69, pj_ai_wv, hG67, pj_ai_wa_nj _ _ _ _ _ (by omega), jG59.2.2 181 (by decide), jG46.2.2 181 (by decide), hG34, pj_ai_wa_nj _ _ _ _ _ (by omega), jG27.2.2 181 (by decide), hG17, pj_ai_wa_nj _ _ _ _ _ (by omega), hG16, pj_ai_wa_nj _ _ _ _ _ (by omega), jG10.2.2 181 (by decide)]
          have eb : pj_fi G69 171 21 = pj_fi G0 171 21 := kG69.1 (171, 21) (by decide)
          exact pj_X_rt rfl rfl ⟨_, rfl, iG69, kG69, ⟨by omega, by omega⟩, ⟨by omega, fun _ => ⟨by omega, fun q => by rw [eb, show (pj_fi G69 171 22).toInt = (pj_fi G0 171 22).toInt + 1 by omega]; exact pj_rd_s q y1.toInt.toNat (by omega) hold (by omega) (by omega) (by omega)⟩⟩⟩
      | false =>
        have ub53 := pj_u0_neF b53
        refine pj_X_of (fun r h => pj_R_ifF rfl b53 h) ?_
        refine pj_X_of (fun r h => pj_R_to (G46, 80, [(1, .int z4), (0, .ref 171)], [.int (Int32.ofInt 0)], 0, 0) 80 2 (fun _ => rfl) h) ?_
        have q83 : (pj_fi G46 171 22).toInt = y50.toInt := by rw [show pj_fi G46 171 22 = y50 from hy50.symm]
        have q84 : (pj_fi G46 171 23).toInt = y51.toInt := by rw [show pj_fi G46 171 23 = y51 from hy51.symm]
        have q85 : (pj_fi G46 171 21).toInt = y52.toInt := by rw [show pj_fi G46 171 21 = y52 from hy52.symm]
        exact pj_X_rt rfl rfl ⟨_, rfl, iG46, kG46, ⟨by omega, by omega⟩, ⟨by omega, fun q => absurd q (by omega)⟩⟩
  | false =>
    have ub21 := pj_u0_geF b21
    refine pj_X_of (fun r h => pj_R_ifF rfl b21 h) ?_
    refine pj_X_of (fun r h => pj_R_to (G17, 45, [(1, .int z4), (0, .ref 171)], [.int (Int32.ofInt 0)], 0, 0) 45 2 (fun _ => rfl) h) ?_
    have q86 : (pj_fi G17 171 22).toInt = y13.toInt := by rw [show pj_fi G17 171 22 = y13 from by rw [hG17, pj_fi_wa]; exact (by rw [hG16, pj_fi_wa]; exact hy13.symm)]
    have q87 : (pj_fi G17 171 23).toInt = y14.toInt := by rw [show pj_fi G17 171 23 = y14 from by rw [hG17, pj_fi_wa]; exact (by rw [hG16, pj_fi_wa]; exact hy14.symm)]
    have q88 : (pj_fi G17 171 21).toInt = y15.toInt := by rw [show pj_fi G17 171 21 = y15 from by rw [hG17, pj_fi_wa]; exact (by rw [hG16, pj_fi_wa]; exact hy15.symm)]
    exact pj_X_rt rfl rfl ⟨_, rfl, iG17, kG17, ⟨by omega, by omega⟩, ⟨by omega, fun q => absurd q (by omega)⟩⟩
def kc_192 : pj_KT := ([(171, 7), (171, 30)], [171], [])
theorem ct_192 (G0 : pj_G) (hI : pj_Inv G0) : pj_Y 1 192 [.ref 171] G0 (fun v G' => v = none ∧ pj_Inv G' ∧ pj_kpt kc_192 G0 G' ∧ ((pj_fi G' 171 30).toInt ≤ 15)) := by
  have c0_ : (Int32.ofInt 0).toInt = 0 := by decide
  have c1_ : (Int32.ofInt 1).toInt = 1 := by decide
  refine pj_Y_X (M := pj_m192) rfl rfl (Nat.le_of_ble_eq_true rfl) ?_
  have hK : pj_kpt kc_192 G0 G0 := pj_kpt_r _ _
  show pj_X _ _ G0 0 [(0, .ref 171)] [] _
  obtain ⟨y1, hy1⟩ : ∃ z : Int32, z = pj_fi G0 171 30 := ⟨_, rfl⟩
  have ey1 : (pj_fi G0 171 30).toInt = y1.toInt := by rw [hy1]
  have ry1 : (0 : Int) ≤ y1.toInt ∧ y1.toInt ≤ 16 := by rw [hy1]; exact hI.2.1 171 30 (0, 16) rfl
  refine pj_X_of (fun r h => pj_R_to (G0, 2, [(0, .ref 171)], [.int (Int32.ofInt 0), .ref 171], 0, 0) 2 3 (fun _ => rfl) h) ?_
  refine pj_X_of (fun r h => pj_T_pf hI rfl rfl rfl h) ?_
  show pj_X _ _ (pj_wv G0 171 30 (.int (Int32.ofInt 0))) 5 [(0, .ref 171)] [] _
  obtain ⟨G2, hG2⟩ : ∃ H, H = pj_wv G0 171 30 (.int (Int32.ofInt 0)) := ⟨_, rfl⟩
  have iG2 : pj_Inv G2 := by rw [hG2]; exact pj_Inv_wi hI (ci := 12) rfl (fun q hq => by cases hq; exact ⟨by show (0 : Int) ≤ _; omega, by show _ ≤ (16 : Int); omega⟩)
  have kG2 : pj_kpt kc_192 G0 G2 := by rw [hG2]; exact pj_kpt_v hK rfl
  rw [← hG2]
  refine pj_X_of (fun r h => pj_R_to (G2, 7, [(0, .ref 171)], [.ref 171, .ref 171], 0, 0) 7 3 (fun _ => rfl) h) ?_
  refine pj_X_of (fun r h => pj_T_gi iG2 rfl rfl h) ?_
  show pj_X _ _ G2 10 [(0, .ref 171)] [.int (pj_fi G2 171 7), .ref 171] _
  obtain ⟨y3, hy3⟩ : ∃ z : Int32, z = pj_fi G2 171 7 := ⟨_, rfl⟩
  refine pj_X_eqi hy3.symm ?_
  have ey3 : (pj_fi G2 171 7).toInt = y3.toInt := by rw [hy3]
  refine pj_X_of (fun r h => pj_R_to (G2, 12, [(0, .ref 171)], [.int (y3 + (Int32.ofInt 1)), .ref 171], 0, 0) 12 3 (fun _ => rfl) h) ?_
  obtain ⟨z4, hz4⟩ : ∃ z : Int32, z = y3 + (Int32.ofInt 1) := ⟨_, rfl⟩
  refine pj_X_eqi hz4.symm ?_
  refine pj_X_of (fun r h => pj_T_pf iG2 rfl rfl rfl h) ?_
  show pj_X _ _ (pj_wv G2 171 7 (.int z4)) 15 [(0, .ref 171)] [] _
  obtain ⟨G5, hG5⟩ : ∃ H, H = pj_wv G2 171 7 (.int z4) := ⟨_, rfl⟩
  have iG5 : pj_Inv G5 := by rw [hG5]; exact pj_Inv_wi iG2 (ci := 12) rfl (fun q hq => by cases hq)
  have kG5 : pj_kpt kc_192 G0 G5 := by rw [hG5]; exact pj_kpt_v kG2 rfl
  rw [← hG5]
  have q6 : (pj_fi G5 171 30).toInt = (Int32.ofInt 0).toInt := by rw [show pj_fi G5 171 30 = Int32.ofInt 0 from by rw [hG5, pj_fi_wv_ne _ _ _ _ _ _ (by decide)]; exact (by rw [hG2]; exact pj_fi_wi hI.1 (ci := 12) rfl _)]
  exact pj_X_rt rfl rfl ⟨rfl, iG5, kG5, by omega⟩
def kc_191 : pj_KT := ([(171, 0), (171, 3), (171, 4), (171, 5), (171, 6), (171, 7), (171, 16), (171, 17), (171, 18), (171, 19), (171, 21), (171, 22), (171, 23), (171, 30)], [171, 173, 174, 175, 176, 179, 181], [173, 174, 175, 176, 179, 181])
theorem lp_ct_191 (G0 : pj_G) (hI0 : pj_Inv G0) (p0_ : pj_RI G0) (p1_ : (pj_fi G0 171 30).toInt ≤ 15) : ∀ mn : Nat, (∀ (G : pj_G) (hI : pj_Inv G) (hK : pj_kpt kc_191 G0 G) (v1 : Int32) (v2 : Int32), ((0 : Int) ≤ v1.toInt ∧ v1.toInt ≤ 80) → ((0 : Int) ≤ v2.toInt ∧ v2.toInt ≤ 1) → (pj_RI G) → (1 ≤ v2.toInt → pj_rd G (pj_fi G 171 22).toInt (pj_fi G 171 21).toInt) → ((pj_fi G 171 30).toInt ≤ 15) → ((pj_fi G 171 22).toInt ≤ 10) → 1000 + 20 * (11 - (pj_fi G 171 22).toInt) + 10 * v2.toInt < (mn : Int) → pj_X 18 pj_m191 G 43 [(0, .ref 171), (1, .int v1), (2, .int v2)] [] (fun v G' => ∃ y : Int32, v = some (.int y) ∧ pj_Inv G' ∧ pj_kpt kc_191 G0 G' ∧ ((-2147483648 : Int) ≤ y.toInt ∧ y.toInt ≤ 2147483647) ∧ (pj_RI G' ∧ (pj_fi G' 171 30).toInt ≤ 15))) ∧ (∀ (G : pj_G) (hI : pj_Inv G) (hK : pj_kpt kc_191 G0 G) (v1 : Int32) (v2 : Int32) (v3 : Int32) (v4 : Int32), ((0 : Int) ≤ v1.toInt ∧ v1.toInt ≤ 80) → ((0 : Int) ≤ v2.toInt ∧ v2.toInt ≤ 1) → ((-2147483648 : Int) ≤ v3.toInt ∧ v3.toInt ≤ 2147483647) → ((0 : Int) ≤ v4.toInt ∧ v4.toInt ≤ 10) → (pj_rd G (pj_fi G 171 4).toInt (pj_fi G 171 3).toInt) → (pj_ro G v4.toInt (pj_fi G 171 3).toInt) → ((pj_fi G 171 30).toInt ≤ 15) → (v4.toInt ≤ (pj_fi G 171 4).toInt) → 10 - v4.toInt < (mn : Int) → pj_X 18 pj_m191 G 107 [(0, .ref 171), (1, .int v1), (2, .int v2), (3, .int v3), (4, .int v4)] [] (fun v G' => ∃ y : Int32, v = some (.int y) ∧ pj_Inv G' ∧ pj_kpt kc_191 G0 G' ∧ ((-2147483648 : Int) ≤ y.toInt ∧ y.toInt ≤ 2147483647) ∧ (pj_RI G' ∧ (pj_fi G' 171 30).toInt ≤ 15))) := by
  have c0_ : ((Int8.ofInt 10).toInt32).toInt = 10 := by decide
  have c1_ : ((Int8.ofInt 30).toInt32).toInt = 30 := by decide
  have c2_ : ((Int8.ofInt 31).toInt32).toInt = 31 := by decide
  have c3_ : ((Int8.ofInt 59).toInt32).toInt = 59 := by decide
  have c4_ : ((Int8.ofInt 72).toInt32).toInt = 72 := by decide
  have c5_ : (Int32.ofInt 0).toInt = 0 := by decide
  have c6_ : (Int32.ofInt 1).toInt = 1 := by decide
  have c7_ : (Int32.ofInt 2).toInt = 2 := by decide
  have c8_ : (Int32.ofInt 3).toInt = 3 := by decide
  have c9_ : (Int32.ofInt 4).toInt = 4 := by decide
  intro mn
  induction mn with
  | zero =>
    refine ⟨?_, ?_⟩
    · intro G hI hK v1 v2 rv1 rv2 x0_ x1_ x2_ x3_ hm
      exfalso
      omega
    · intro G hI hK v1 v2 v3 v4 rv1 rv2 rv3 rv4 x0_ x1_ x2_ x3_ hm
      exfalso
      omega
  | succ mn ih =>
    refine ⟨?_, ?_⟩
    · intro G hI hK v1 v2 rv1 rv2 x0_ x1_ x2_ x3_ hm
      obtain ⟨y1, hy1⟩ : ∃ z : Int32, z = pj_fi G 171 30 := ⟨_, rfl⟩
      have ey1 : (pj_fi G 171 30).toInt = y1.toInt := by rw [hy1]
      have ry1 : (0 : Int) ≤ y1.toInt ∧ y1.toInt ≤ 16 := by rw [hy1]; exact hI.2.1 171 30 (0, 16) rfl
      obtain ⟨y2, hy2⟩ : ∃ z : Int32, z = pj_fi G 171 22 := ⟨_, rfl⟩
      have ey2 : (pj_fi G 171 22).toInt = y2.toInt := by rw [hy2]
      have ry2 : (0 : Int) ≤ y2.toInt ∧ y2.toInt ≤ 10 := by rw [hy2]; exact hI.2.1 171 22 (0, 10) rfl
      obtain ⟨y3, hy3⟩ : ∃ z : Int32, z = pj_fi G 171 21 := ⟨_, rfl⟩
      have ey3 : (pj_fi G 171 21).toInt = y3.toInt := by rw [hy3]
      have ry3 : (0 : Int) ≤ y3.toInt ∧ y3.toInt ≤ 8 := by rw [hy3]; exact hI.2.1 171 21 (0, 8) rfl
      obtain ⟨y4, hy4⟩ : ∃ z : Int32, z = pj_fi G 171 3 := ⟨_, rfl⟩
      have ey4 : (pj_fi G 171 3).toInt = y4.toInt := by rw [hy4]
      have ry4 : (0 : Int) ≤ y4.toInt ∧ y4.toInt ≤ 8 := by rw [hy4]; exact hI.2.1 171 3 (0, 8) rfl
      obtain ⟨y5, hy5⟩ : ∃ z : Int32, z = pj_fi G 171 4 := ⟨_, rfl⟩
      have ey5 : (pj_fi G 171 4).toInt = y5.toInt := by rw [hy5]
      have ry5 : (0 : Int) ≤ y5.toInt ∧ y5.toInt ≤ 10 := by rw [hy5]; exact hI.2.1 171 4 (0, 10) rfl
      refine pj_X_of (fun r h => pj_R_to (G, 44, [(0, .ref 171), (1, .int v1), (2, .int v2)], [.int v2], 0, 0) 44 2 (fun _ => rfl) h) ?_
      cases b6 : pj_c1 .eq v2 0 with
      | true =>
        have ub6 := pj_u0_eqT b6
        refine pj_X_of (fun r h => pj_R_ifT 73 rfl rfl b6 h) ?_
        refine pj_X_of (fun r h => pj_R_to (G, 78, [(0, .ref 171), (1, .int v1), (2, .int v2)], [.int v2, .int ((Int8.ofInt 72).toInt32), .int v1, .ref 171], 0, 0) 78 5 (fun _ => rfl) h) ?_
        have q7 : (pj_fi G 171 30).toInt = y1.toInt := by rw [show pj_fi G 171 30 = y1 from hy1.symm]
        have q8 : (pj_fi G 171 22).toInt = y2.toInt := by rw [show pj_fi G 171 22 = y2 from hy2.symm]
        have q9 : (pj_fi G 171 21).toInt = y3.toInt := by rw [show pj_fi G 171 21 = y3 from hy3.symm]
        have q10 : (pj_fi G 171 3).toInt = y4.toInt := by rw [show pj_fi G 171 3 = y4 from hy4.symm]
        have q11 : (pj_fi G 171 4).toInt = y5.toInt := by rw [show pj_fi G 171 4 = y5 from hy5.symm]
        refine pj_X_ca (vs := [.ref 171, .int v1, .int ((Int8.ofInt 72).toInt32), .int v2]) rfl (fun _ => rfl) ⟨Nat.le_of_ble_eq_true rfl, Nat.le_of_ble_eq_true rfl, pj_T_rcv hI rfl⟩ ⟨rfl, rfl⟩ (pj_Y_up (by decide) (ct_188 G hI v1 ((Int8.ofInt 72).toInt32) v2 ⟨by omega, by omega⟩ ⟨by omega, by omega⟩ ⟨by omega, by omega⟩)) ?_
        rintro _ _ ⟨y12, rfl, rfl, ry12, ey12⟩
        show pj_X _ _ G 81 [(0, .ref 171), (1, .int v1), (2, .int v2)] [.int y12] _
        refine pj_X_of (fun r h => pj_R_to (G, 83, [(3, .int y12), (0, .ref 171), (1, .int v1), (2, .int v2)], [.int y12], 0, 0) 83 3 (fun _ => rfl) h) ?_
        cases b13 : pj_c1 .ge y12 0 with
        | true =>
          have ub13 := pj_u0_geT b13
          refine pj_X_of (fun r h => pj_R_ifT 88 rfl rfl b13 h) ?_
          refine pj_X_of (fun r h => pj_R_to (G, 90, [(3, .int y12), (0, .ref 171), (1, .int v1), (2, .int v2)], [.ref 171, .ref 171], 0, 0) 90 3 (fun _ => rfl) h) ?_
          have rd14 : pj_rd G (pj_fi G 171 22).toInt (pj_fi G 171 21).toInt := by rw [show pj_fi G 171 22 = pj_fi G 171 22 from by rfl, show pj_fi G 171 21 = pj_fi G 171 21 from by rfl]; exact pj_rd_k (fun j => by rfl) (x1_ (by omega))
          refine pj_X_of (fun r h => pj_T_gi hI rfl rfl h) ?_
          show pj_X _ _ G 93 [(3, .int y12), (0, .ref 171), (1, .int v1), (2, .int v2)] [.int (pj_fi G 171 21), .ref 171] _
          refine pj_X_eqi (show pj_fi G 171 21 = y3 from hy3.symm) ?_
          refine pj_X_of (fun r h => pj_T_pf hI rfl rfl rfl h) ?_
          show pj_X _ _ (pj_wv G 171 3 (.int y3)) 96 [(3, .int y12), (0, .ref 171), (1, .int v1), (2, .int v2)] [] _
          obtain ⟨G15, hG15⟩ : ∃ H, H = pj_wv G 171 3 (.int y3) := ⟨_, rfl⟩
          have iG15 : pj_Inv G15 := by rw [hG15]; exact pj_Inv_wi hI (ci := 12) rfl (fun q hq => by cases hq; exact ⟨by show (0 : Int) ≤ _; omega, by show _ ≤ (8 : Int); omega⟩)
          have kG15 : pj_kpt kc_191 G0 G15 := by rw [hG15]; exact pj_kpt_v hK rfl
          rw [← hG15]
          refine pj_X_of (fun r h => pj_R_to (G15, 98, [(3, .int y12), (0, .ref 171), (1, .int v1), (2, .int v2)], [.ref 171, .ref 171], 0, 0) 98 3 (fun _ => rfl) h) ?_
          refine pj_X_of (fun r h => pj_T_gi iG15 rfl rfl h) ?_
          show pj_X _ _ G15 101 [(3, .int y12), (0, .ref 171), (1, .int v1), (2, .int v2)] [.int (pj_fi G15 171 22), .ref 171] _
          refine pj_X_eqi (show pj_fi G15 171 22 = y2 from by rw [hG15, pj_fi_wv_ne _ _ _ _ _ _ (by decide)]; exact hy2.symm) ?_
          refine pj_X_of (fun r h => pj_T_pf iG15 rfl rfl rfl h) ?_
          show pj_X _ _ (pj_wv G15 171 4 (.int y2)) 104 [(3, .int y12), (0, .ref 171), (1, .int v1), (2, .int v2)] [] _
          obtain ⟨G16, hG16⟩ : ∃ H, H = pj_wv G15 171 4 (.int y2) := ⟨_, rfl⟩
          have iG16 : pj_Inv G16 := by rw [hG16]; exact pj_Inv_wi iG15 (ci := 12) rfl (fun q hq => by cases hq; exact ⟨by show (0 : Int) ≤ _; omega, by show _ ≤ (10 : Int); omega⟩)
          have kG16 : pj_kpt kc_191 G0 G16 := by rw [hG16]; exact pj_kpt_v kG15 rfl
          rw [← hG16]
          refine pj_X_of (fun r h => pj_R_to (G16, 107, [(4, .int (Int32.ofInt 0)), (3, .int y12), (0, .ref 171), (1, .int v1), (2, .int v2)], [], 0, 0) 107 3 (fun _ => rfl) h) ?_
          have q17 : (pj_fi G16 171 30).toInt = y1.toInt := by rw [show pj_fi G16 171 30 = y1 from by rw [hG16, pj_fi_wv_ne _ _ _ _ _ _ (by decide)]; exact (by rw [hG15, pj_fi_wv_ne _ _ _ _ _ _ (by decide)]; exact hy1.symm)]
          have q18 : (pj_fi G16 171 22).toInt = y2.toInt := by rw [show pj_fi G16 171 22 = y2 from by rw [hG16, pj_fi_wv_ne _ _ _ _ _ _ (by decide)]; exact (by rw [hG15, pj_fi_wv_ne _ _ _ _ _ _ (by decide)]; exact hy2.symm)]
          have q19 : (pj_fi G16 171 21).toInt = y3.toInt := by rw [show pj_fi G16 171 21 = y3 from by rw [hG16, pj_fi_wv_ne _ _ _ _ _ _ (by decide)]; exact (by rw [hG15, pj_fi_wv_ne _ _ _ _ _ _ (by decide)]; exact hy3.symm)]
          have q20 : (pj_fi G16 171 3).toInt = y3.toInt := by rw [show pj_fi G16 171 3 = y3 from by rw [hG16, pj_fi_wv_ne _ _ _ _ _ _ (by decide)]; exact (by rw [hG15]; exact pj_fi_wi hI.1 (ci := 12) rfl _)]
          have q21 : (pj_fi G16 171 4).toInt = y2.toInt := by rw [show pj_fi G16 171 4 = y2 from by rw [hG16]; exact pj_fi_wi iG15.1 (ci := 12) rfl _]
          have q22 : (pj_fi G16 171 30).toInt = y1.toInt := by rw [show pj_fi G16 171 30 = y1 from by rw [hG16, pj_fi_wv_ne _ _ _ _ _ _ (by decide)]; exact (by rw [hG15, pj_fi_wv_ne _ _ _ _ _ _ (by decide)]; exact hy1.symm)]
          have q23 : (pj_fi G16 171 22).toInt = y2.toInt := by rw [show pj_fi G16 171 22 = y2 from by rw [hG16, pj_fi_wv_ne _ _ _ _ _ _ (by decide)]; exact (by rw [hG15, pj_fi_wv_ne _ _ _ _ _ _ (by decide)]; exact hy2.symm)]
          have q24 : (pj_fi G16 171 21).toInt = y3.toInt := by rw [show pj_fi G16 171 21 = y3 from by rw [hG16, pj_fi_wv_ne _ _ _ _ _ _ (by decide)]; exact (by rw [hG15, pj_fi_wv_ne _ _ _ _ _ _ (by decide)]; exact hy3.symm)]
          have q25 : (pj_fi G16 171 3).toInt = y3.toInt := by rw [show pj_fi G16 171 3 = y3 from by rw [hG16, pj_fi_wv_ne _ _ _ _ _ _ (by decide)]; exact (by rw [hG15]; exact pj_fi_wi hI.1 (ci := 12) rfl _)]
          have q26 : (pj_fi G16 171 4).toInt = y2.toInt := by rw [show pj_fi G16 171 4 = y2 from by rw [hG16]; exact pj_fi_wi iG15.1 (ci := 12) rfl _]
          have c27 : (pj_fi G16 171 4).toInt = (pj_fi G 171 22).toInt := by omega
          have c28 : (pj_fi G16 171 3).toInt = (pj_fi G 171 21).toInt := by omega
          exact pj_X_sub [(0, .ref 171), (1, .int v1), (2, .int v2), (3, .int y12), (4, .int (Int32.ofInt 0))] (show List.Nodup [0, 1, 2, 3, 4] by decide) ⟨rfl, rfl, rfl, rfl, rfl, trivial⟩ (ih.2 G16 iG16 kG16 v1 v2 y12 (Int32.ofInt 0) ⟨by omega, by omega⟩ ⟨by omega, by omega⟩ (pj_i32 _) ⟨by omega, by omega⟩ (by rw [c27, c28]; exact pj_rd_k (fun j => by rw [hG16, pj_ai_wv, hG15, pj_ai_wv]) rd14) (pj_ro_0 (by omega)) (by omega) (by omega) (by omega))
        | false =>
          have ub13 := pj_u0_geF b13
          refine pj_X_of (fun r h => pj_R_ifF rfl b13 h) ?_
          refine pj_X_of (fun r h => pj_R_to (G, 87, [(3, .int y12), (0, .ref 171), (1, .int v1), (2, .int v2)], [.int y12], 0, 0) 87 2 (fun _ => rfl) h) ?_
          have q29 : (pj_fi G 171 30).toInt = y1.toInt := by rw [show pj_fi G 171 30 = y1 from hy1.symm]
          have q30 : (pj_fi G 171 22).toInt = y2.toInt := by rw [show pj_fi G 171 22 = y2 from hy2.symm]
          have q31 : (pj_fi G 171 21).toInt = y3.toInt := by rw [show pj_fi G 171 21 = y3 from hy3.symm]
          have q32 : (pj_fi G 171 3).toInt = y4.toInt := by rw [show pj_fi G 171 3 = y4 from hy4.symm]
          have q33 : (pj_fi G 171 4).toInt = y5.toInt := by rw [show pj_fi G 171 4 = y5 from hy5.symm]
          have t34 : pj_kpt ([], [], []) G G := pj_kpt_r _ _
          exact pj_X_rt rfl rfl ⟨_, rfl, hI, hK, pj_i32 _, ⟨pj_RI_k x0_ t34 rfl, by omega⟩⟩
      | false =>
        have ub6 := pj_u0_eqF b6
        refine pj_X_of (fun r h => pj_R_ifF rfl b6 h) ?_
        refine pj_X_of (fun r h => pj_R_to (G, 48, [(0, .ref 171), (1, .int v1), (2, .int v2)], [.ref 171], 0, 0) 48 2 (fun _ => rfl) h) ?_
        refine pj_X_of (fun r h => pj_T_gi hI rfl rfl h) ?_
        show pj_X _ _ G 51 [(0, .ref 171), (1, .int v1), (2, .int v2)] [.int (pj_fi G 171 22)] _
        refine pj_X_eqi (show pj_fi G 171 22 = y2 from hy2.symm) ?_
        refine pj_X_of (fun r h => pj_R_to (G, 53, [(0, .ref 171), (1, .int v1), (2, .int v2)], [.int ((Int8.ofInt 10).toInt32), .int y2], 0, 0) 53 2 (fun _ => rfl) h) ?_
        cases b35 : pj_c1 .ge y2 ((Int8.ofInt 10).toInt32) with
        | true =>
          have ub35 := pj_u_geT b35
          refine pj_X_of (fun r h => pj_R_icT 73 rfl rfl b35 h) ?_
          refine pj_X_of (fun r h => pj_R_to (G, 78, [(0, .ref 171), (1, .int v1), (2, .int v2)], [.int v2, .int ((Int8.ofInt 72).toInt32), .int v1, .ref 171], 0, 0) 78 5 (fun _ => rfl) h) ?_
          have q36 : (pj_fi G 171 30).toInt = y1.toInt := by rw [show pj_fi G 171 30 = y1 from hy1.symm]
          have q37 : (pj_fi G 171 22).toInt = y2.toInt := by rw [show pj_fi G 171 22 = y2 from hy2.symm]
          have q38 : (pj_fi G 171 21).toInt = y3.toInt := by rw [show pj_fi G 171 21 = y3 from hy3.symm]
          have q39 : (pj_fi G 171 3).toInt = y4.toInt := by rw [show pj_fi G 171 3 = y4 from hy4.symm]
          have q40 : (pj_fi G 171 4).toInt = y5.toInt := by rw [show pj_fi G 171 4 = y5 from hy5.symm]
          refine pj_X_ca (vs := [.ref 171, .int v1, .int ((Int8.ofInt 72).toInt32), .int v2]) rfl (fun _ => rfl) ⟨Nat.le_of_ble_eq_true rfl, Nat.le_of_ble_eq_true rfl, pj_T_rcv hI rfl⟩ ⟨rfl, rfl⟩ (pj_Y_up (by decide) (ct_188 G hI v1 ((Int8.ofInt 72).toInt32) v2 ⟨by omega, by omega⟩ ⟨by omega, by omega⟩ ⟨by omega, by omega⟩)) ?_
          rintro _ _ ⟨y41, rfl, rfl, ry41, ey41⟩
          show pj_X _ _ G 81 [(0, .ref 171), (1, .int v1), (2, .int v2)] [.int y41] _
          refine pj_X_of (fun r h => pj_R_to (G, 83, [(3, .int y41), (0, .ref 171), (1, .int v1), (2, .int v2)], [.int y41], 0, 0) 83 3 (fun _ => rfl) h) ?_
          cases b42 : pj_c1 .ge y41 0 with
          | true =>
            have ub42 := pj_u0_geT b42
            refine pj_X_of (fun r h => pj_R_ifT 88 rfl rfl b42 h) ?_
            refine pj_X_of (fun r h => pj_R_to (G, 90, [(3, .int y41), (0, .ref 171), (1, .int v1), (2, .int v2)], [.ref 171, .ref 171], 0, 0) 90 3 (fun _ => rfl) h) ?_
            have rd43 : pj_rd G (pj_fi G 171 22).toInt (pj_fi G 171 21).toInt := by rw [show pj_fi G 171 22 = pj_fi G 171 22 from by rfl, show pj_fi G 171 21 = pj_fi G 171 21 from by rfl]; exact pj_rd_k (fun j => by rfl) (x1_ (by omega))
            refine pj_X_of (fun r h => pj_T_gi hI rfl rfl h) ?_
            show pj_X _ _ G 93 [(3, .int y41), (0, .ref 171), (1, .int v1), (2, .int v2)] [.int (pj_fi G 171 21), .ref 171] _
            refine pj_X_eqi (show pj_fi G 171 21 = y3 from hy3.symm) ?_
            refine pj_X_of (fun r h => pj_T_pf hI rfl rfl rfl h) ?_
            show pj_X _ _ (pj_wv G 171 3 (.int y3)) 96 [(3, .int y41), (0, .ref 171), (1, .int v1), (2, .int v2)] [] _
            obtain ⟨G44, hG44⟩ : ∃ H, H = pj_wv G 171 3 (.int y3) := ⟨_, rfl⟩
            have iG44 : pj_Inv G44 := by rw [hG44]; exact pj_Inv_wi hI (ci := 12) rfl (fun q hq => by cases hq; exact ⟨by show (0 : Int) ≤ _; omega, by show _ ≤ (8 : Int); omega⟩)
            have kG44 : pj_kpt kc_191 G0 G44 := by rw [hG44]; exact pj_kpt_v hK rfl
            rw [← hG44]
            refine pj_X_of (fun r h => pj_R_to (G44, 98, [(3, .int y41), (0, .ref 171), (1, .int v1), (2, .int v2)], [.ref 171, .ref 171], 0, 0) 98 3 (fun _ => rfl) h) ?_
            refine pj_X_of (fun r h => pj_T_gi iG44 rfl rfl h) ?_
            show pj_X _ _ G44 101 [(3, .int y41), (0, .ref 171), (1, .int v1), (2, .int v2)] [.int (pj_fi G44 171 22), .ref 171] _
            refine pj_X_eqi (show pj_fi G44 171 22 = y2 from by rw [hG44, pj_fi_wv_ne _ _ _ _ _ _ (by decide)]; exact hy2.symm) ?_
            refine pj_X_of (fun r h => pj_T_pf iG44 rfl rfl rfl h) ?_
            show pj_X _ _ (pj_wv G44 171 4 (.int y2)) 104 [(3, .int y41), (0, .ref 171), (1, .int v1), (2, .int v2)] [] _
            obtain ⟨G45, hG45⟩ : ∃ H, H = pj_wv G44 171 4 (.int y2) := ⟨_, rfl⟩
            have iG45 : pj_Inv G45 := by rw [hG45]; exact pj_Inv_wi iG44 (ci := 12) rfl (fun q hq => by cases hq; exact ⟨by show (0 : Int) ≤ _; omega, by show _ ≤ (10 : Int); omega⟩)
            have kG45 : pj_kpt kc_191 G0 G45 := by rw [hG45]; exact pj_kpt_v kG44 rfl
            rw [← hG45]
            refine pj_X_of (fun r h => pj_R_to (G45, 107, [(4, .int (Int32.ofInt 0)), (3, .int y41), (0, .ref 171), (1, .int v1), (2, .int v2)], [], 0, 0) 107 3 (fun _ => rfl) h) ?_
            have q46 : (pj_fi G45 171 30).toInt = y1.toInt := by rw [show pj_fi G45 171 30 = y1 from by rw [hG45, pj_fi_wv_ne _ _ _ _ _ _ (by decide)]; exact (by rw [hG44, pj_fi_wv_ne _ _ _ _ _ _ (by decide)]; exact hy1.symm)]
            have q47 : (pj_fi G45 171 22).toInt = y2.toInt := by rw [show pj_fi G45 171 22 = y2 from by rw [hG45, pj_fi_wv_ne _ _ _ _ _ _ (by decide)]; exact (by rw [hG44, pj_fi_wv_ne _ _ _ _ _ _ (by decide)]; exact hy2.symm)]
            have q48 : (pj_fi G45 171 21).toInt = y3.toInt := by rw [show pj_fi G45 171 21 = y3 from by rw [hG45, pj_fi_wv_ne _ _ _ _ _ _ (by decide)]; exact (by rw [hG44, pj_fi_wv_ne _ _ _ _ _ _ (by decide)]; exact hy3.symm)]
            have q49 : (pj_fi G45 171 3).toInt = y3.toInt := by rw [show pj_fi G45 171 3 = y3 from by rw [hG45, pj_fi_wv_ne _ _ _ _ _ _ (by decide)]; exact (by rw [hG44]; exact pj_fi_wi hI.1 (ci := 12) rfl _)]
            have q50 : (pj_fi G45 171 4).toInt = y2.toInt := by rw [show pj_fi G45 171 4 = y2 from by rw [hG45]; exact pj_fi_wi iG44.1 (ci := 12) rfl _]
            have q51 : (pj_fi G45 171 30).toInt = y1.toInt := by rw [show pj_fi G45 171 30 = y1 from by rw [hG45, pj_fi_wv_ne _ _ _ _ _ _ (by decide)]; exact (by rw [hG44, pj_fi_wv_ne _ _ _ _ _ _ (by decide)]; exact hy1.symm)]
            have q52 : (pj_fi G45 171 22).toInt = y2.toInt := by rw [show pj_fi G45 171 22 = y2 from by rw [hG45, pj_fi_wv_ne _ _ _ _ _ _ (by decide)]; exact (by rw [hG44, pj_fi_wv_ne _ _ _ _ _ _ (by decide)]; exact hy2.symm)]
            have q53 : (pj_fi G45 171 21).toInt = y3.toInt := by rw [show pj_fi G45 171 21 = y3 from by rw [hG45, pj_fi_wv_ne _ _ _ _ _ _ (by decide)]; exact (by rw [hG44, pj_fi_wv_ne _ _ _ _ _ _ (by decide)]; exact hy3.symm)]
            have q54 : (pj_fi G45 171 3).toInt = y3.toInt := by rw [show pj_fi G45 171 3 = y3 from by rw [hG45, pj_fi_wv_ne _ _ _ _ _ _ (by decide)]; exact (by rw [hG44]; exact pj_fi_wi hI.1 (ci := 12) rfl _)]
            have q55 : (pj_fi G45 171 4).toInt = y2.toInt := by rw [show pj_fi G45 171 4 = y2 from by rw [hG45]; exact pj_fi_wi iG44.1 (ci := 12) rfl _]
            have c56 : (pj_fi G45 171 4).toInt = (pj_fi G 171 22).toInt := by omega
            have c57 : (pj_fi G45 171 3).toInt = (pj_fi G 171 21).toInt := by omega
            exact pj_X_sub [(0, .ref 171), (1, .int v1), (2, .int v2), (3, .int y41), (4, .int (Int32.ofInt 0))] (show List.Nodup [0, 1, 2, 3, 4] by decide) ⟨rfl, rfl, rfl, rfl, rfl, trivial⟩ (ih.2 G45 iG45 kG45 v1 v2 y41 (Int32.ofInt 0) ⟨by omega, by omega⟩ ⟨by omega, by omega⟩ (pj_i32 _) ⟨by omega, by omega⟩ (by rw [c56, c57]; exact pj_rd_k (fun j => by rw [hG45, pj_ai_wv, hG44, pj_ai_wv]) rd43) (pj_ro_0 (by omega)) (by omega) (by omega) (by omega))
          | false =>
            have ub42 := pj_u0_geF b42
            refine pj_X_of (fun r h => pj_R_ifF rfl b42 h) ?_
            refine pj_X_of (fun r h => pj_R_to (G, 87, [(3, .int y41), (0, .ref 171), (1, .int v1), (2, .int v2)], [.int y41], 0, 0) 87 2 (fun _ => rfl) h) ?_
            have q58 : (pj_fi G 171 30).toInt = y1.toInt := by rw [show pj_fi G 171 30 = y1 from hy1.symm]
            have q59 : (pj_fi G 171 22).toInt = y2.toInt := by rw [show pj_fi G 171 22 = y2 from hy2.symm]
            have q60 : (pj_fi G 171 21).toInt = y3.toInt := by rw [show pj_fi G 171 21 = y3 from hy3.symm]
            have q61 : (pj_fi G 171 3).toInt = y4.toInt := by rw [show pj_fi G 171 3 = y4 from hy4.symm]
            have q62 : (pj_fi G 171 4).toInt = y5.toInt := by rw [show pj_fi G 171 4 = y5 from hy5.symm]
            have t63 : pj_kpt ([], [], []) G G := pj_kpt_r _ _
            exact pj_X_rt rfl rfl ⟨_, rfl, hI, hK, pj_i32 _, ⟨pj_RI_k x0_ t63 rfl, by omega⟩⟩
        | false =>
          have ub35 := pj_u_geF b35
          refine pj_X_of (fun r h => pj_R_icF rfl b35 h) ?_
          refine pj_X_of (fun r h => pj_R_to (G, 59, [(0, .ref 171), (1, .int v1), (2, .int v2)], [.int ((Int8.ofInt 59).toInt32), .ref 171], 0, 0) 59 3 (fun _ => rfl) h) ?_
          have q64 : (pj_fi G 171 30).toInt = y1.toInt := by rw [show pj_fi G 171 30 = y1 from hy1.symm]
          have q65 : (pj_fi G 171 22).toInt = y2.toInt := by rw [show pj_fi G 171 22 = y2 from hy2.symm]
          have q66 : (pj_fi G 171 21).toInt = y3.toInt := by rw [show pj_fi G 171 21 = y3 from hy3.symm]
          have q67 : (pj_fi G 171 3).toInt = y4.toInt := by rw [show pj_fi G 171 3 = y4 from hy4.symm]
          have q68 : (pj_fi G 171 4).toInt = y5.toInt := by rw [show pj_fi G 171 4 = y5 from hy5.symm]
          refine pj_X_ca (vs := [.ref 171, .int ((Int8.ofInt 59).toInt32)]) rfl (fun _ => rfl) ⟨Nat.le_of_ble_eq_true rfl, Nat.le_of_ble_eq_true rfl, pj_T_rcv hI rfl⟩ ⟨rfl, rfl⟩ (pj_Y_up (by decide) (ct_182 G hI ((Int8.ofInt 59).toInt32) ⟨by omega, by omega⟩)) ?_
          rintro _ G70 ⟨y69, rfl, iG70, jG70, ry69, ey69⟩
          have kG70 : pj_kpt kc_191 G0 G70 := pj_kpt_t hK (pj_kpt_s jG70 rfl)
          have q71 : (pj_fi G70 171 30).toInt = (pj_fi G 171 30).toInt := by rw [jG70.1 (171, 30) (by decide)]
          have q72 : (pj_fi G70 171 22).toInt = (pj_fi G 171 22).toInt := by rw [jG70.1 (171, 22) (by decide)]
          have q73 : (pj_fi G70 171 21).toInt = (pj_fi G 171 21).toInt := by rw [jG70.1 (171, 21) (by decide)]
          have q74 : (pj_fi G70 171 3).toInt = (pj_fi G 171 3).toInt := by rw [jG70.1 (171, 3) (by decide)]
          have q75 : (pj_fi G70 171 4).toInt = (pj_fi G 171 4).toInt := by rw [jG70.1 (171, 4) (by decide)]
          obtain ⟨y76, hy76⟩ : ∃ z : Int32, z = pj_fi G70 171 30 := ⟨_, rfl⟩
          have ey76 : (pj_fi G70 171 30).toInt = y76.toInt := by rw [hy76]
          have ry76 : (0 : Int) ≤ y76.toInt ∧ y76.toInt ≤ 16 := by rw [hy76]; exact iG70.2.1 171 30 (0, 16) rfl
          obtain ⟨y77, hy77⟩ : ∃ z : Int32, z = pj_fi G70 171 22 := ⟨_, rfl⟩
          have ey77 : (pj_fi G70 171 22).toInt = y77.toInt := by rw [hy77]
          have ry77 : (0 : Int) ≤ y77.toInt ∧ y77.toInt ≤ 10 := by rw [hy77]; exact iG70.2.1 171 22 (0, 10) rfl
          obtain ⟨y78, hy78⟩ : ∃ z : Int32, z = pj_fi G70 171 21 := ⟨_, rfl⟩
          have ey78 : (pj_fi G70 171 21).toInt = y78.toInt := by rw [hy78]
          have ry78 : (0 : Int) ≤ y78.toInt ∧ y78.toInt ≤ 8 := by rw [hy78]; exact iG70.2.1 171 21 (0, 8) rfl
          obtain ⟨y79, hy79⟩ : ∃ z : Int32, z = pj_fi G70 171 3 := ⟨_, rfl⟩
          have ey79 : (pj_fi G70 171 3).toInt = y79.toInt := by rw [hy79]
          have ry79 : (0 : Int) ≤ y79.toInt ∧ y79.toInt ≤ 8 := by rw [hy79]; exact iG70.2.1 171 3 (0, 8) rfl
          obtain ⟨y80, hy80⟩ : ∃ z : Int32, z = pj_fi G70 171 4 := ⟨_, rfl⟩
          have ey80 : (pj_fi G70 171 4).toInt = y80.toInt := by rw [hy80]
          have ry80 : (0 : Int) ≤ y80.toInt ∧ y80.toInt ≤ 10 := by rw [hy80]; exact iG70.2.1 171 4 (0, 10) rfl
          show pj_X _ _ G70 62 [(0, .ref 171), (1, .int v1), (2, .int v2)] [.int y69] _
          cases b81 : pj_c1 .eq y69 0 with
          | true =>
            have ub81 := pj_u0_eqT b81
            refine pj_X_of (fun r h => pj_R_ifT 73 rfl rfl b81 h) ?_
            refine pj_X_of (fun r h => pj_R_to (G70, 78, [(0, .ref 171), (1, .int v1), (2, .int v2)], [.int v2, .int ((Int8.ofInt 72).toInt32), .int v1, .ref 171], 0, 0) 78 5 (fun _ => rfl) h) ?_
            have q82 : (pj_fi G70 171 30).toInt = y76.toInt := by rw [show pj_fi G70 171 30 = y76 from hy76.symm]
            have q83 : (pj_fi G70 171 22).toInt = y77.toInt := by rw [show pj_fi G70 171 22 = y77 from hy77.symm]
            have q84 : (pj_fi G70 171 21).toInt = y78.toInt := by rw [show pj_fi G70 171 21 = y78 from hy78.symm]
            have q85 : (pj_fi G70 171 3).toInt = y79.toInt := by rw [show pj_fi G70 171 3 = y79 from hy79.symm]
            have q86 : (pj_fi G70 171 4).toInt = y80.toInt := by rw [show pj_fi G70 171 4 = y80 from hy80.symm]
            refine pj_X_ca (vs := [.ref 171, .int v1, .int ((Int8.ofInt 72).toInt32), .int v2]) rfl (fun _ => rfl) ⟨Nat.le_of_ble_eq_true rfl, Nat.le_of_ble_eq_true rfl, pj_T_rcv iG70 rfl⟩ ⟨rfl, rfl⟩ (pj_Y_up (by decide) (ct_188 G70 iG70 v1 ((Int8.ofInt 72).toInt32) v2 ⟨by omega, by omega⟩ ⟨by omega, by omega⟩ ⟨by omega, by omega⟩)) ?_
            rintro _ _ ⟨y87, rfl, rfl, ry87, ey87⟩
            show pj_X _ _ G70 81 [(0, .ref 171), (1, .int v1), (2, .int v2)] [.int y87] _
            refine pj_X_of (fun r h => pj_R_to (G70, 83, [(3, .int y87), (0, .ref 171), (1, .int v1), (2, .int v2)], [.int y87], 0, 0) 83 3 (fun _ => rfl) h) ?_
            cases b88 : pj_c1 .ge y87 0 with
            | true =>
              have ub88 := pj_u0_geT b88
              refine pj_X_of (fun r h => pj_R_ifT 88 rfl rfl b88 h) ?_
              refine pj_X_of (fun r h => pj_R_to (G70, 90, [(3, .int y87), (0, .ref 171), (1, .int v1), (2, .int v2)], [.ref 171, .ref 171], 0, 0) 90 3 (fun _ => rfl) h) ?_
              have rd89 : pj_rd G70 (pj_fi G70 171 22).toInt (pj_fi G70 171 21).toInt := by rw [show pj_fi G70 171 22 = pj_fi G 171 22 from by rw [jG70.1 (171, 22) (by decide)], show pj_fi G70 171 21 = pj_fi G 171 21 from by rw [jG70.1 (171, 21) (by decide)]]; exact pj_rd_k (fun j => by rw [jG70.2.2 181 (by decide)]) (x1_ (by omega))
              refine pj_X_of (fun r h => pj_T_gi iG70 rfl rfl h) ?_
              show pj_X _ _ G70 93 [(3, .int y87), (0, .ref 171), (1, .int v1), (2, .int v2)] [.int (pj_fi G70 171 21), .ref 171] _
              refine pj_X_eqi (show pj_fi G70 171 21 = y78 from hy78.symm) ?_
              refine pj_X_of (fun r h => pj_T_pf iG70 rfl rfl rfl h) ?_
              show pj_X _ _ (pj_wv G70 171 3 (.int y78)) 96 [(3, .int y87), (0, .ref 171), (1, .int v1), (2, .int v2)] [] _
              obtain ⟨G90, hG90⟩ : ∃ H, H = pj_wv G70 171 3 (.int y78) := ⟨_, rfl⟩
              have iG90 : pj_Inv G90 := by rw [hG90]; exact pj_Inv_wi iG70 (ci := 12) rfl (fun q hq => by cases hq; exact ⟨by show (0 : Int) ≤ _; omega, by show _ ≤ (8 : Int); omega⟩)
              have kG90 : pj_kpt kc_191 G0 G90 := by rw [hG90]; exact pj_kpt_v kG70 rfl
              rw [← hG90]
              refine pj_X_of (fun r h => pj_R_to (G90, 98, [(3, .int y87), (0, .ref 171), (1, .int v1), (2, .int v2)], [.ref 171, .ref 171], 0, 0) 98 3 (fun _ => rfl) h) ?_
              refine pj_X_of (fun r h => pj_T_gi iG90 rfl rfl h) ?_
              show pj_X _ _ G90 101 [(3, .int y87), (0, .ref 171), (1, .int v1), (2, .int v2)] [.int (pj_fi G90 171 22), .ref 171] _
              refine pj_X_eqi (show pj_fi G90 171 22 = y77 from by rw [hG90, pj_fi_wv_ne _ _ _ _ _ _ (by decide)]; exact hy77.symm) ?_
              refine pj_X_of (fun r h => pj_T_pf iG90 rfl rfl rfl h) ?_
              show pj_X _ _ (pj_wv G90 171 4 (.int y77)) 104 [(3, .int y87), (0, .ref 171), (1, .int v1), (2, .int v2)] [] _
              obtain ⟨G91, hG91⟩ : ∃ H, H = pj_wv G90 171 4 (.int y77) := ⟨_, rfl⟩
              have iG91 : pj_Inv G91 := by rw [hG91]; exact pj_Inv_wi iG90 (ci := 12) rfl (fun q hq => by cases hq; exact ⟨by show (0 : Int) ≤ _; omega, by show _ ≤ (10 : Int); omega⟩)
              have kG91 : pj_kpt kc_191 G0 G91 := by rw [hG91]; exact pj_kpt_v kG90 rfl
              rw [← hG91]
              refine pj_X_of (fun r h => pj_R_to (G91, 107, [(4, .int (Int32.ofInt 0)), (3, .int y87), (0, .ref 171), (1, .int v1), (2, .int v2)], [], 0, 0) 107 3 (fun _ => rfl) h) ?_
              have q92 : (pj_fi G91 171 30).toInt = y76.toInt := by rw [show pj_fi G91 171 30 = y76 from by rw [hG91, pj_fi_wv_ne _ _ _ _ _ _ (by decide)]; exact (by rw [hG90, pj_fi_wv_ne _ _ _ _ _ _ (by decide)]; exact hy76.symm)]
              have q93 : (pj_fi G91 171 22).toInt = y77.toInt := by rw [show pj_fi G91 171 22 = y77 from by rw [hG91, pj_fi_wv_ne _ _ _ _ _ _ (by decide)]; exact (by rw [hG90, pj_fi_wv_ne _ _ _ _ _ _ (by decide)]; exact hy77.symm)]
              have q94 : (pj_fi G91 171 21).toInt = y78.toInt := by rw [show pj_fi G91 171 21 = y78 from by rw [hG91, pj_fi_wv_ne _ _ _ _ _ _ (by decide)]; exact (by rw [hG90, pj_fi_wv_ne _ _ _ _ _ _ (by decide)]; exact hy78.symm)]
              have q95 : (pj_fi G91 171 3).toInt = y78.toInt := by rw [show pj_fi G91 171 3 = y78 from by rw [hG91, pj_fi_wv_ne _ _ _ _ _ _ (by decide)]; exact (by rw [hG90]; exact pj_fi_wi iG70.1 (ci := 12) rfl _)]
              have q96 : (pj_fi G91 171 4).toInt = y77.toInt := by rw [show pj_fi G91 171 4 = y77 from by rw [hG91]; exact pj_fi_wi iG90.1 (ci := 12) rfl _]
              have q97 : (pj_fi G91 171 30).toInt = y76.toInt := by rw [show pj_fi G91 171 30 = y76 from by rw [hG91, pj_fi_wv_ne _ _ _ _ _ _ (by decide)]; exact (by rw [hG90, pj_fi_wv_ne _ _ _ _ _ _ (by decide)]; exact hy76.symm)]
              have q98 : (pj_fi G91 171 22).toInt = y77.toInt := by rw [show pj_fi G91 171 22 = y77 from by rw [hG91, pj_fi_wv_ne _ _ _ _ _ _ (by decide)]; exact (by rw [hG90, pj_fi_wv_ne _ _ _ _ _ _ (by decide)]; exact hy77.symm)]
              have q99 : (pj_fi G91 171 21).toInt = y78.toInt := by rw [show pj_fi G91 171 21 = y78 from by rw [hG91, pj_fi_wv_ne _ _ _ _ _ _ (by decide)]; exact (by rw [hG90, pj_fi_wv_ne _ _ _ _ _ _ (by decide)]; exact hy78.symm)]
              have q100 : (pj_fi G91 171 3).toInt = y78.toInt := by rw [show pj_fi G91 171 3 = y78 from by rw [hG91, pj_fi_wv_ne _ _ _ _ _ _ (by decide)]; exact (by rw [hG90]; exact pj_fi_wi iG70.1 (ci := 12) rfl _)]
              have q101 : (pj_fi G91 171 4).toInt = y77.toInt := by rw [show pj_fi G91 171 4 = y77 from by rw [hG91]; exact pj_fi_wi iG90.1 (ci := 12) rfl _]
              have c102 : (pj_fi G91 171 4).toInt = (pj_fi G70 171 22).toInt := by omega
              have c103 : (pj_fi G91 171 3).toInt = (pj_fi G70 171 21).toInt := by omega
              exact pj_X_sub [(0, .ref 171), (1, .int v1), (2, .int v2), (3, .int y87), (4, .int (Int32.ofInt 0))] (show List.Nodup [0, 1, 2, 3, 4] by decide) ⟨rfl, rfl, rfl, rfl, rfl, trivial⟩ (ih.2 G91 iG91 kG91 v1 v2 y87 (Int32.ofInt 0) ⟨by omega, by omega⟩ ⟨by omega, by omega⟩ (pj_i32 _) ⟨by omega, by omega⟩ (by rw [c102, c103]; exact pj_rd_k (fun j => by rw [hG91, pj_ai_wv, hG90, pj_ai_wv]) rd89) (pj_ro_0 (by omega)) (by omega) (by omega) (by omega))
            | false =>
              have ub88 := pj_u0_geF b88
              refine pj_X_of (fun r h => pj_R_ifF rfl b88 h) ?_
              refine pj_X_of (fun r h => pj_R_to (G70, 87, [(3, .int y87), (0, .ref 171), (1, .int v1), (2, .int v2)], [.int y87], 0, 0) 87 2 (fun _ => rfl) h) ?_
              have q104 : (pj_fi G70 171 30).toInt = y76.toInt := by rw [show pj_fi G70 171 30 = y76 from hy76.symm]
              have q105 : (pj_fi G70 171 22).toInt = y77.toInt := by rw [show pj_fi G70 171 22 = y77 from hy77.symm]
              have q106 : (pj_fi G70 171 21).toInt = y78.toInt := by rw [show pj_fi G70 171 21 = y78 from hy78.symm]
              have q107 : (pj_fi G70 171 3).toInt = y79.toInt := by rw [show pj_fi G70 171 3 = y79 from hy79.symm]
              have q108 : (pj_fi G70 171 4).toInt = y80.toInt := by rw [show pj_fi G70 171 4 = y80 from hy80.symm]
              have t109 : pj_kpt ([(171, 17)], [171], []) G G := pj_kpt_r _ _
              have t110 : pj_kpt ([(171, 17)], [171], []) G G70 := pj_kpt_t t109 (pj_kpt_s jG70 rfl)
              exact pj_X_rt rfl rfl ⟨_, rfl, iG70, kG70, pj_i32 _, ⟨pj_RI_k x0_ t110 rfl, by omega⟩⟩
          | false =>
            have ub81 := pj_u0_eqF b81
            refine pj_X_of (fun r h => pj_R_ifF rfl b81 h) ?_
            refine pj_X_of (fun r h => pj_R_to (G70, 66, [(0, .ref 171), (1, .int v1), (2, .int v2)], [.ref 171], 0, 0) 66 2 (fun _ => rfl) h) ?_
            have q111 : (pj_fi G70 171 30).toInt = y76.toInt := by rw [show pj_fi G70 171 30 = y76 from hy76.symm]
            have q112 : (pj_fi G70 171 22).toInt = y77.toInt := by rw [show pj_fi G70 171 22 = y77 from hy77.symm]
            have q113 : (pj_fi G70 171 21).toInt = y78.toInt := by rw [show pj_fi G70 171 21 = y78 from hy78.symm]
            have q114 : (pj_fi G70 171 3).toInt = y79.toInt := by rw [show pj_fi G70 171 3 = y79 from hy79.symm]
            have q115 : (pj_fi G70 171 4).toInt = y80.toInt := by rw [show pj_fi G70 171 4 = y80 from hy80.symm]
            refine pj_X_ca (vs := [.ref 171]) rfl (fun _ => rfl) ⟨Nat.le_of_ble_eq_true rfl, Nat.le_of_ble_eq_true rfl, pj_T_rcv iG70 rfl⟩ ⟨rfl, rfl⟩ (pj_Y_up (by decide) (ct_190 G70 iG70 (by omega))) ?_
            rintro _ G117 ⟨y116, rfl, iG117, jG117, ry116, ey116⟩
            have kG117 : pj_kpt kc_191 G0 G117 := pj_kpt_t kG70 (pj_kpt_s jG117 rfl)
            have q118 : (pj_fi G117 171 30).toInt = (pj_fi G70 171 30).toInt := by rw [jG117.1 (171, 30) (by decide)]
            have q119 : (pj_fi G117 171 21).toInt = (pj_fi G70 171 21).toInt := by rw [jG117.1 (171, 21) (by decide)]
            have q120 : (pj_fi G117 171 3).toInt = (pj_fi G70 171 3).toInt := by rw [jG117.1 (171, 3) (by decide)]
            have q121 : (pj_fi G117 171 4).toInt = (pj_fi G70 171 4).toInt := by rw [jG117.1 (171, 4) (by decide)]
            obtain ⟨y122, hy122⟩ : ∃ z : Int32, z = pj_fi G117 171 30 := ⟨_, rfl⟩
            have ey122 : (pj_fi G117 171 30).toInt = y122.toInt := by rw [hy122]
            have ry122 : (0 : Int) ≤ y122.toInt ∧ y122.toInt ≤ 16 := by rw [hy122]; exact iG117.2.1 171 30 (0, 16) rfl
            obtain ⟨y123, hy123⟩ : ∃ z : Int32, z = pj_fi G117 171 22 := ⟨_, rfl⟩
            have ey123 : (pj_fi G117 171 22).toInt = y123.toInt := by rw [hy123]
            have ry123 : (0 : Int) ≤ y123.toInt ∧ y123.toInt ≤ 10 := by rw [hy123]; exact iG117.2.1 171 22 (0, 10) rfl
            obtain ⟨y124, hy124⟩ : ∃ z : Int32, z = pj_fi G117 171 21 := ⟨_, rfl⟩
            have ey124 : (pj_fi G117 171 21).toInt = y124.toInt := by rw [hy124]
            have ry124 : (0 : Int) ≤ y124.toInt ∧ y124.toInt ≤ 8 := by rw [hy124]; exact iG117.2.1 171 21 (0, 8) rfl
            obtain ⟨y125, hy125⟩ : ∃ z : Int32, z = pj_fi G117 171 3 := ⟨_, rfl⟩
            have ey125 : (pj_fi G117 171 3).toInt = y125.toInt := by rw [hy125]
            have ry125 : (0 : Int) ≤ y125.toInt ∧ y125.toInt ≤ 8 := by rw [hy125]; exact iG117.2.1 171 3 (0, 8) rfl
            obtain ⟨y126, hy126⟩ : ∃ z : Int32, z = pj_fi G117 171 4 := ⟨_, rfl⟩
            have ey126 : (pj_fi G117 171 4).toInt = y126.toInt := by rw [hy126]
            have ry126 : (0 : Int) ≤ y126.toInt ∧ y126.toInt ≤ 10 := by rw [hy126]; exact iG117.2.1 171 4 (0, 10) rfl
            show pj_X _ _ G117 69 [(0, .ref 171), (1, .int v1), (2, .int v2)] [.int y116] _
            refine pj_X_of (fun r h => pj_R_to (G117, 43, [(2, .int y116), (0, .ref 171), (1, .int v1)], [], 0, 0) 43 3 (fun _ => rfl) h) ?_
            have q127 : (pj_fi G117 171 30).toInt = y122.toInt := by rw [show pj_fi G117 171 30 = y122 from hy122.symm]
            have q128 : (pj_fi G117 171 22).toInt = y123.toInt := by rw [show pj_fi G117 171 22 = y123 from hy123.symm]
            have q129 : (pj_fi G117 171 21).toInt = y124.toInt := by rw [show pj_fi G117 171 21 = y124 from hy124.symm]
            have q130 : (pj_fi G117 171 3).toInt = y125.toInt := by rw [show pj_fi G117 171 3 = y125 from hy125.symm]
            have q131 : (pj_fi G117 171 4).toInt = y126.toInt := by rw [show pj_fi G117 171 4 = y126 from hy126.symm]
            have t132 : pj_kpt ([(171, 17), (171, 22), (171, 23)], [171, 181], [181]) G G := pj_kpt_r _ _
            have t133 : pj_kpt ([(171, 17), (171, 22), (171, 23)], [171, 181], [181]) G G70 := pj_kpt_t t132 (pj_kpt_s jG70 rfl)
            have t134 : pj_kpt ([(171, 17), (171, 22), (171, 23)], [171, 181], [181]) G G117 := pj_kpt_t t133 (pj_kpt_s jG117 rfl)
            have rd135 : 1 ≤ v2.toInt → pj_rd G70 (pj_fi G70 171 22).toInt (pj_fi G70 171 21).toInt := fun q => by rw [show pj_fi G70 171 22 = pj_fi G 171 22 from by rw [jG70.1 (171, 22) (by decide)], show pj_fi G70 171 21 = pj_fi G 171 21 from by rw [jG70.1 (171, 21) (by decide)]]; exact pj_rd_k (fun j => by rw [jG70.2.2 181 (by decide)]) (x1_ q)
            exact pj_X_sub [(0, .ref 171), (1, .int v1), (2, .int y116)] (show List.Nodup [0, 1, 2] by decide) ⟨rfl, rfl, rfl, trivial⟩ (ih.1 G117 iG117 kG117 v1 y116 ⟨by omega, by omega⟩ ⟨by omega, by omega⟩ (pj_RI_k x0_ t134 rfl) (fun q => (ey116.2 q).2 (rd135 (by omega))) (by omega) (by omega) (by omega))
    · intro G hI hK v1 v2 v3 v4 rv1 rv2 rv3 rv4 x0_ x1_ x2_ x3_ hm
      obtain ⟨y136, hy136⟩ : ∃ z : Int32, z = pj_fi G 171 30 := ⟨_, rfl⟩
      have ey136 : (pj_fi G 171 30).toInt = y136.toInt := by rw [hy136]
      have ry136 : (0 : Int) ≤ y136.toInt ∧ y136.toInt ≤ 16 := by rw [hy136]; exact hI.2.1 171 30 (0, 16) rfl
      obtain ⟨y137, hy137⟩ : ∃ z : Int32, z = pj_fi G 171 22 := ⟨_, rfl⟩
      have ey137 : (pj_fi G 171 22).toInt = y137.toInt := by rw [hy137]
      have ry137 : (0 : Int) ≤ y137.toInt ∧ y137.toInt ≤ 10 := by rw [hy137]; exact hI.2.1 171 22 (0, 10) rfl
      obtain ⟨y138, hy138⟩ : ∃ z : Int32, z = pj_fi G 171 21 := ⟨_, rfl⟩
      have ey138 : (pj_fi G 171 21).toInt = y138.toInt := by rw [hy138]
      have ry138 : (0 : Int) ≤ y138.toInt ∧ y138.toInt ≤ 8 := by rw [hy138]; exact hI.2.1 171 21 (0, 8) rfl
      obtain ⟨y139, hy139⟩ : ∃ z : Int32, z = pj_fi G 171 3 := ⟨_, rfl⟩
      have ey139 : (pj_fi G 171 3).toInt = y139.toInt := by rw [hy139]
      have ry139 : (0 : Int) ≤ y139.toInt ∧ y139.toInt ≤ 8 := by rw [hy139]; exact hI.2.1 171 3 (0, 8) rfl
      obtain ⟨y140, hy140⟩ : ∃ z : Int32, z = pj_fi G 171 4 := ⟨_, rfl⟩
      have ey140 : (pj_fi G 171 4).toInt = y140.toInt := by rw [hy140]
      have ry140 : (0 : Int) ≤ y140.toInt ∧ y140.toInt ≤ 10 := by rw [hy140]; exact hI.2.1 171 4 (0, 10) rfl
      refine pj_X_of (fun r h => pj_R_to (G, 110, [(0, .ref 171), (1, .int v1), (2, .int v2), (3, .int v3), (4, .int v4)], [.ref 171, .int v4], 0, 0) 110 3 (fun _ => rfl) h) ?_
      refine pj_X_of (fun r h => pj_T_gi hI rfl rfl h) ?_
      show pj_X _ _ G 113 [(0, .ref 171), (1, .int v1), (2, .int v2), (3, .int v3), (4, .int v4)] [.int (pj_fi G 171 4), .int v4] _
      refine pj_X_eqi (show pj_fi G 171 4 = y140 from hy140.symm) ?_
      cases b141 : pj_c1 .ge v4 y140 with
      | true =>
        have ub141 := pj_u_geT b141
        refine pj_X_of (fun r h => pj_R_icT 192 rfl rfl b141 h) ?_
        refine pj_X_of (fun r h => pj_R_to (G, 194, [(0, .ref 171), (1, .int v1), (2, .int v2), (3, .int v3), (4, .int v4)], [.int (Int32.ofInt 0), .ref 171], 0, 0) 194 3 (fun _ => rfl) h) ?_
        refine pj_X_of (fun r h => pj_T_pf hI rfl rfl rfl h) ?_
        show pj_X _ _ (pj_wv G 171 5 (.int (Int32.ofInt 0))) 197 [(0, .ref 171), (1, .int v1), (2, .int v2), (3, .int v3), (4, .int v4)] [] _
        obtain ⟨G142, hG142⟩ : ∃ H, H = pj_wv G 171 5 (.int (Int32.ofInt 0)) := ⟨_, rfl⟩
        have iG142 : pj_Inv G142 := by rw [hG142]; exact pj_Inv_wi hI (ci := 12) rfl (fun q hq => by cases hq; exact ⟨by show (0 : Int) ≤ _; omega, by show _ ≤ (6 : Int); omega⟩)
        have kG142 : pj_kpt kc_191 G0 G142 := by rw [hG142]; exact pj_kpt_v hK rfl
        rw [← hG142]
        refine pj_X_of (fun r h => pj_R_to (G142, 199, [(0, .ref 171), (1, .int v1), (2, .int v2), (3, .int v3), (4, .int v4)], [.int (Int32.ofInt 0), .ref 171], 0, 0) 199 3 (fun _ => rfl) h) ?_
        refine pj_X_of (fun r h => pj_T_pf iG142 rfl rfl rfl h) ?_
        show pj_X _ _ (pj_wv G142 171 6 (.int (Int32.ofInt 0))) 202 [(0, .ref 171), (1, .int v1), (2, .int v2), (3, .int v3), (4, .int v4)] [] _
        obtain ⟨G143, hG143⟩ : ∃ H, H = pj_wv G142 171 6 (.int (Int32.ofInt 0)) := ⟨_, rfl⟩
        have iG143 : pj_Inv G143 := by rw [hG143]; exact pj_Inv_wi iG142 (ci := 12) rfl (fun q hq => by cases hq; exact ⟨by show (0 : Int) ≤ _; omega, by show _ ≤ (6 : Int); omega⟩)
        have kG143 : pj_kpt kc_191 G0 G143 := by rw [hG143]; exact pj_kpt_v kG142 rfl
        rw [← hG143]
        refine pj_X_of (fun r h => pj_R_to (G143, 203, [(0, .ref 171), (1, .int v1), (2, .int v2), (3, .int v3), (4, .int v4)], [.ref 171], 0, 0) 203 2 (fun _ => rfl) h) ?_
        refine pj_X_of (fun r h => pj_T_gr iG143 rfl rfl rfl h) ?_
        refine pj_X_of (fun r h => pj_R_to (G143, 209, [(0, .ref 171), (1, .int v1), (2, .int v2), (3, .int v3), (4, .int v4)], [.int (Int32.ofInt 0), .int ((Int8.ofInt 30).toInt32), .ref 179], 0, 0) 209 3 (fun _ => rfl) h) ?_
        refine pj_X_of (fun r h => pj_T_is iG143 rfl rfl (by omega) (by omega) h) ?_
        show pj_X _ _ (pj_wa G143 179 ((Int8.ofInt 30).toInt32).toInt.toNat (Int32.ofInt 0)) 210 [(0, .ref 171), (1, .int v1), (2, .int v2), (3, .int v3), (4, .int v4)] [] _
        obtain ⟨G144, hG144⟩ : ∃ H, H = pj_wa G143 179 ((Int8.ofInt 30).toInt32).toInt.toNat (Int32.ofInt 0) := ⟨_, rfl⟩
        have iG144 : pj_Inv G144 := by rw [hG144]; exact pj_Inv_wa iG143 rfl (fun q hq => by cases hq) (fun n hn => ⟨fun h1 => ⟨fun h2 => by omega, fun h2 => by omega⟩, fun h1 => by omega⟩)
        have kG144 : pj_kpt kc_191 G0 G144 := by rw [hG144]; exact pj_kpt_a kG143 rfl
        rw [← hG144]
        refine pj_X_of (fun r h => pj_R_to (G144, 211, [(0, .ref 171), (1, .int v1), (2, .int v2), (3, .int v3), (4, .int v4)], [.ref 171], 0, 0) 211 2 (fun _ => rfl) h) ?_
        refine pj_X_of (fun r h => pj_T_gr iG144 rfl rfl rfl h) ?_
        refine pj_X_of (fun r h => pj_R_to (G144, 217, [(0, .ref 171), (1, .int v1), (2, .int v2), (3, .int v3), (4, .int v4)], [.int (Int32.ofInt 0), .int ((Int8.ofInt 31).toInt32), .ref 179], 0, 0) 217 3 (fun _ => rfl) h) ?_
        refine pj_X_of (fun r h => pj_T_is iG144 rfl rfl (by omega) (by omega) h) ?_
        show pj_X _ _ (pj_wa G144 179 ((Int8.ofInt 31).toInt32).toInt.toNat (Int32.ofInt 0)) 218 [(0, .ref 171), (1, .int v1), (2, .int v2), (3, .int v3), (4, .int v4)] [] _
        obtain ⟨G145, hG145⟩ : ∃ H, H = pj_wa G144 179 ((Int8.ofInt 31).toInt32).toInt.toNat (Int32.ofInt 0) := ⟨_, rfl⟩
        have iG145 : pj_Inv G145 := by rw [hG145]; exact pj_Inv_wa iG144 rfl (fun q hq => by cases hq) (fun n hn => ⟨fun h1 => ⟨fun h2 => by omega, fun h2 => by omega⟩, fun h1 => by omega⟩)
        have kG145 : pj_kpt kc_191 G0 G145 := by rw [hG145]; exact pj_kpt_a kG144 rfl
        rw [← hG145]
        refine pj_X_of (fun r h => pj_R_to (G145, 219, [(0, .ref 171), (1, .int v1), (2, .int v2), (3, .int v3), (4, .int v4)], [.ref 171], 0, 0) 219 2 (fun _ => rfl) h) ?_
        have q146 : (pj_fi G145 171 30).toInt = y136.toInt := by rw [show pj_fi G145 171 30 = y136 from by rw [hG145, pj_fi_wa]; exact (by rw [hG144, pj_fi_wa]; exact (by rw [hG143, pj_fi_wv_ne _ _ _ _ _ _ (by decide)]; exact (by rw [hG142, pj_fi_wv_ne _ _ _ _ _ _ (by decide)]; exact hy136.symm)))]
        have q147 : (pj_fi G145 171 22).toInt = y137.toInt := by rw [show pj_fi G145 171 22 = y137 from by rw [hG145, pj_fi_wa]; exact (by rw [hG144, pj_fi_wa]; exact (by rw [hG143, pj_fi_wv_ne _ _ _ _ _ _ (by decide)]; exact (by rw [hG142, pj_fi_wv_ne _ _ _ _ _ _ (by decide)]; exact hy137.symm)))]
        have q148 : (pj_fi G145 171 21).toInt = y138.toInt := by rw [show pj_fi G145 171 21 = y138 from by rw [hG145, pj_fi_wa]; exact (by rw [hG144, pj_fi_wa]; exact (by rw [hG143, pj_fi_wv_ne _ _ _ _ _ _ (by decide)]; exact (by rw [hG142, pj_fi_wv_ne _ _ _ _ _ _ (by decide)]; exact hy138.symm)))]
        have q149 : (pj_fi G145 171 3).toInt = y139.toInt := by rw [show pj_fi G145 171 3 = y139 from by rw [hG145, pj_fi_wa]; exact (by rw [hG144, pj_fi_wa]; exact (by rw [hG143, pj_fi_wv_ne _ _ _ _ _ _ (by decide)]; exact (by rw [hG142, pj_fi_wv_ne _ _ _ _ _ _ (by decide)]; exact hy139.symm)))]
        have q150 : (pj_fi G145 171 4).toInt = y140.toInt := by rw [show pj_fi G145 171 4 = y140 from by rw [hG145, pj_fi_wa]; exact (by rw [hG144, pj_fi_wa]; exact (by rw [hG143, pj_fi_wv_ne _ _ _ _ _ _ (by decide)]; exact (by rw [hG142, pj_fi_wv_ne _ _ _ _ _ _ (by decide)]; exact hy140.symm)))]
        refine pj_X_ca (vs := [.ref 171]) rfl (fun _ => rfl) ⟨Nat.le_of_ble_eq_true rfl, Nat.le_of_ble_eq_true rfl, pj_T_rcv iG145 rfl⟩ ⟨rfl, rfl⟩ (pj_Y_up (by decide) (ct_192 G145 iG145)) ?_
        rintro _ G152 ⟨rfl, iG152, jG152, eG152⟩
        have kG152 : pj_kpt kc_191 G0 G152 := pj_kpt_t kG145 (pj_kpt_s jG152 rfl)
        have q153 : (pj_fi G152 171 22).toInt = (pj_fi G145 171 22).toInt := by rw [jG152.1 (171, 22) (by decide)]
        have q154 : (pj_fi G152 171 21).toInt = (pj_fi G145 171 21).toInt := by rw [jG152.1 (171, 21) (by decide)]
        have q155 : (pj_fi G152 171 3).toInt = (pj_fi G145 171 3).toInt := by rw [jG152.1 (171, 3) (by decide)]
        have q156 : (pj_fi G152 171 4).toInt = (pj_fi G145 171 4).toInt := by rw [jG152.1 (171, 4) (by decide)]
        obtain ⟨y157, hy157⟩ : ∃ z : Int32, z = pj_fi G152 171 30 := ⟨_, rfl⟩
        have ey157 : (pj_fi G152 171 30).toInt = y157.toInt := by rw [hy157]
        have ry157 : (0 : Int) ≤ y157.toInt ∧ y157.toInt ≤ 16 := by rw [hy157]; exact iG152.2.1 171 30 (0, 16) rfl
        obtain ⟨y158, hy158⟩ : ∃ z : Int32, z = pj_fi G152 171 22 := ⟨_, rfl⟩
        have ey158 : (pj_fi G152 171 22).toInt = y158.toInt := by rw [hy158]
        have ry158 : (0 : Int) ≤ y158.toInt ∧ y158.toInt ≤ 10 := by rw [hy158]; exact iG152.2.1 171 22 (0, 10) rfl
        obtain ⟨y159, hy159⟩ : ∃ z : Int32, z = pj_fi G152 171 21 := ⟨_, rfl⟩
        have ey159 : (pj_fi G152 171 21).toInt = y159.toInt := by rw [hy159]
        have ry159 : (0 : Int) ≤ y159.toInt ∧ y159.toInt ≤ 8 := by rw [hy159]; exact iG152.2.1 171 21 (0, 8) rfl
        obtain ⟨y160, hy160⟩ : ∃ z : Int32, z = pj_fi G152 171 3 := ⟨_, rfl⟩
        have ey160 : (pj_fi G152 171 3).toInt = y160.toInt := by rw [hy160]
        have ry160 : (0 : Int) ≤ y160.toInt ∧ y160.toInt ≤ 8 := by rw [hy160]; exact iG152.2.1 171 3 (0, 8) rfl
        obtain ⟨y161, hy161⟩ : ∃ z : Int32, z = pj_fi G152 171 4 := ⟨_, rfl⟩
        have ey161 : (pj_fi G152 171 4).toInt = y161.toInt := by rw [hy161]
        have ry161 : (0 : Int) ≤ y161.toInt ∧ y161.toInt ≤ 10 := by rw [hy161]; exact iG152.2.1 171 4 (0, 10) rfl
        show pj_X _ _ G152 222 [(0, .ref 171), (1, .int v1), (2, .int v2), (3, .int v3), (4, .int v4)] [] _
        refine pj_X_of (fun r h => pj_R_to (G152, 223, [(0, .ref 171), (1, .int v1), (2, .int v2), (3, .int v3), (4, .int v4)], [.ref 171], 0, 0) 223 2 (fun _ => rfl) h) ?_
        refine pj_X_of (fun r h => pj_T_gi iG152 rfl rfl h) ?_
        show pj_X _ _ G152 226 [(0, .ref 171), (1, .int v1), (2, .int v2), (3, .int v3), (4, .int v4)] [.int (pj_fi G152 171 4)] _
        refine pj_X_eqi (show pj_fi G152 171 4 = y161 from hy161.symm) ?_
        have q162 : (pj_fi G152 171 30).toInt = y157.toInt := by rw [show pj_fi G152 171 30 = y157 from hy157.symm]
        have q163 : (pj_fi G152 171 22).toInt = y158.toInt := by rw [show pj_fi G152 171 22 = y158 from hy158.symm]
        have q164 : (pj_fi G152 171 21).toInt = y159.toInt := by rw [show pj_fi G152 171 21 = y159 from hy159.symm]
        have q165 : (pj_fi G152 171 3).toInt = y160.toInt := by rw [show pj_fi G152 171 3 = y160 from hy160.symm]
        have q166 : (pj_fi G152 171 4).toInt = y161.toInt := by rw [show pj_fi G152 171 4 = y161 from hy161.symm]
        have hro : pj_ro G152 (pj_fi G152 171 4).toInt (pj_fi G152 171 3).toInt := by rw [show pj_fi G152 171 4 = pj_fi G 171 4 from by rw [jG152.1 (171, 4) (by decide), hG145, pj_fi_wa, hG144, pj_fi_wa, hG143, pj_fi_wv_ne _ _ _ _ _ _ (by decide), hG142, pj_fi_wv_ne _ _ _ _ _ _ (by decide)], show pj_fi G152 171 3 = pj_fi G 171 3 from by rw [jG152.1 (171, 3) (by decide), hG145, pj_fi_wa, hG144, pj_fi_wa, hG143, pj_fi_wv_ne _ _ _ _ _ _ (by decide), hG142, pj_fi_wv_ne _ _ _ _ _ _ (by decide)], show (pj_fi G 171 4).toInt = v4.toInt by omega]; exact pj_ro_k (fun j => by rw [jG152.2.2 173 (by decide), hG145, pj_ai_wa_ne _ _ _ _ _ _ (by decide), hG144, pj_ai_wa_ne _ _ _ _ _ _ (by decide), hG143, pj_ai_wv, hG142, pj_ai_wv]) (fun j => by rw [jG152.2.2 174 (by decide), hG145, pj_ai_wa_ne _ _ _ _ _ _ (by decide), hG144, pj_ai_wa_ne _ _ _ _ _ _ (by decide), hG143, pj_ai_wv, hG142, pj_ai_wv]) x1_
        exact pj_X_rt rfl rfl ⟨_, rfl, iG152, kG152, pj_i32 _, ⟨pj_RI_of hro p0_ (kG152.1 (171, 26) (by decide)) (fun j => kG152.2.2 182 (by decide) j), by omega⟩⟩
      | false =>
        have ub141 := pj_u_geF b141
        refine pj_X_of (fun r h => pj_R_icF rfl b141 h) ?_
        have hq := x0_ v4.toInt.toNat (by omega)
        refine pj_X_of (fun r h => pj_R_to (G, 117, [(0, .ref 171), (1, .int v1), (2, .int v2), (3, .int v3), (4, .int v4)], [.ref 171], 0, 0) 117 2 (fun _ => rfl) h) ?_
        refine pj_X_of (fun r h => pj_T_gr hI rfl rfl rfl h) ?_
        refine pj_X_of (fun r h => pj_R_to (G, 123, [(0, .ref 171), (1, .int v1), (2, .int v2), (3, .int v3), (4, .int v4)], [.ref 171, .int v4, .ref 173], 0, 0) 123 3 (fun _ => rfl) h) ?_
        refine pj_X_of (fun r h => pj_T_gr hI rfl rfl rfl h) ?_
        refine pj_X_of (fun r h => pj_R_to (G, 130, [(0, .ref 171), (1, .int v1), (2, .int v2), (3, .int v3), (4, .int v4)], [.int ((Int32.ofInt 4) * v4), .ref 181, .int v4, .ref 173], 0, 0) 130 4 (fun _ => rfl) h) ?_
        obtain ⟨z167, hz167⟩ : ∃ z : Int32, z = (Int32.ofInt 4) * v4 := ⟨_, rfl⟩
        refine pj_X_eqi hz167.symm ?_
        have fz167_0 : z167.toInt = 4 * v4.toInt := by rw [hz167]; exact pj_mulL (by decide) (by omega) (by omega)
        refine pj_X_of (fun r h => pj_T_il hI rfl rfl (by omega) (by omega) h) ?_
        show pj_X _ _ G 131 [(0, .ref 171), (1, .int v1), (2, .int v2), (3, .int v3), (4, .int v4)] [.int (pj_ai G 181 z167.toInt.toNat), .int v4, .ref 173] _
        obtain ⟨z168, hz168⟩ : ∃ z : Int32, z = pj_ai G 181 z167.toInt.toNat := ⟨_, rfl⟩
        refine pj_X_eqi hz168.symm ?_
        have ez168 : (pj_ai G 181 z167.toInt.toNat).toInt = z168.toInt := by rw [hz168]
        have fz168_0 : (-1 : Int) ≤ z168.toInt ∧ z168.toInt ≤ 99 ∧ (z168.toInt ≤ -1 ∨ -1 ≤ z168.toInt) := by rw [hz168]; exact hI.2.2.1 181 (40, -1, 99, -1, -1) rfl _ (by show _ < 40; omega)
        have k169 : z168.toInt = (pj_ai G 181 (4 * v4.toInt.toNat)).toInt := by rw [hz168, show z167.toInt.toNat = 4 * v4.toInt.toNat by omega]
        refine pj_X_of (fun r h => pj_T_is hI rfl rfl (by omega) (by omega) h) ?_
        show pj_X _ _ (pj_wa G 173 v4.toInt.toNat z168) 132 [(0, .ref 171), (1, .int v1), (2, .int v2), (3, .int v3), (4, .int v4)] [] _
        obtain ⟨G170, hG170⟩ : ∃ H, H = pj_wa G 173 v4.toInt.toNat z168 := ⟨_, rfl⟩
        have iG170 : pj_Inv G170 := by rw [hG170]; exact pj_Inv_wa hI rfl (fun q hq => by cases hq; exact ⟨by show (0 : Int) ≤ _; omega, by show _ ≤ (7 : Int); omega, by show _ ≤ (0 : Int) ∨ (0 : Int) ≤ _; omega⟩) (fun n hn => by cases hn)
        have kG170 : pj_kpt kc_191 G0 G170 := by rw [hG170]; exact pj_kpt_a hK rfl
        rw [← hG170]
        refine pj_X_of (fun r h => pj_R_to (G170, 133, [(0, .ref 171), (1, .int v1), (2, .int v2), (3, .int v3), (4, .int v4)], [.ref 171], 0, 0) 133 2 (fun _ => rfl) h) ?_
        refine pj_X_of (fun r h => pj_T_gr iG170 rfl rfl rfl h) ?_
        refine pj_X_of (fun r h => pj_R_to (G170, 139, [(0, .ref 171), (1, .int v1), (2, .int v2), (3, .int v3), (4, .int v4)], [.ref 171, .int v4, .ref 174], 0, 0) 139 3 (fun _ => rfl) h) ?_
        refine pj_X_of (fun r h => pj_T_gr iG170 rfl rfl rfl h) ?_
        refine pj_X_of (fun r h => pj_R_to (G170, 146, [(0, .ref 171), (1, .int v1), (2, .int v2), (3, .int v3), (4, .int v4)], [.int ((Int32.ofInt 4) * v4), .ref 181, .int v4, .ref 174], 0, 0) 146 4 (fun _ => rfl) h) ?_
        obtain ⟨z171, hz171⟩ : ∃ z : Int32, z = (Int32.ofInt 4) * v4 := ⟨_, rfl⟩
        refine pj_X_eqi hz171.symm ?_
        have fz171_0 : z171.toInt = 4 * v4.toInt := by rw [hz171]; exact pj_mulL (by decide) (by omega) (by omega)
        refine pj_X_of (fun r h => pj_R_to (G170, 148, [(0, .ref 171), (1, .int v1), (2, .int v2), (3, .int v3), (4, .int v4)], [.int (z171 + (Int32.ofInt 1)), .ref 181, .int v4, .ref 174], 0, 0) 148 3 (fun _ => rfl) h) ?_
        obtain ⟨z172, hz172⟩ : ∃ z : Int32, z = z171 + (Int32.ofInt 1) := ⟨_, rfl⟩
        refine pj_X_eqi hz172.symm ?_
        have fz172_0 : z172.toInt = z171.toInt + (Int32.ofInt 1).toInt := by rw [hz172]; exact pj_addI (by have := pj_i32 z171; have := pj_i32 (Int32.ofInt 1); omega) (by have := pj_i32 z171; have := pj_i32 (Int32.ofInt 1); omega)
        refine pj_X_of (fun r h => pj_T_il iG170 rfl rfl (by omega) (by omega) h) ?_
        show pj_X _ _ G170 149 [(0, .ref 171), (1, .int v1), (2, .int v2), (3, .int v3), (4, .int v4)] [.int (pj_ai G170 181 z172.toInt.toNat), .int v4, .ref 174] _
        obtain ⟨z173, hz173⟩ : ∃ z : Int32, z = pj_ai G170 181 z172.toInt.toNat := ⟨_, rfl⟩
        refine pj_X_eqi hz173.symm ?_
        have ez173 : (pj_ai G170 181 z172.toInt.toNat).toInt = z173.toInt := by rw [hz173]
        have fz173_0 : (-1 : Int) ≤ z173.toInt ∧ z173.toInt ≤ 99 ∧ (z173.toInt ≤ -1 ∨ -1 ≤ z173.toInt) := by rw [hz173]; exact iG170.2.2.1 181 (40, -1, 99, -1, -1) rfl _ (by show _ < 40; omega)
        have k174 : z173.toInt = (pj_ai G 181 (4 * v4.toInt.toNat + 1)).toInt := by rw [hz173, hG170, pj_ai_wa_ne _ _ _ _ _ _ (by decide), show z172.toInt.toNat = 4 * v4.toInt.toNat + 1 by omega]
        refine pj_X_of (fun r h => pj_T_is iG170 rfl rfl (by omega) (by omega) h) ?_
        show pj_X _ _ (pj_wa G170 174 v4.toInt.toNat z173) 150 [(0, .ref 171), (1, .int v1), (2, .int v2), (3, .int v3), (4, .int v4)] [] _
        obtain ⟨G175, hG175⟩ : ∃ H, H = pj_wa G170 174 v4.toInt.toNat z173 := ⟨_, rfl⟩
        have iG175 : pj_Inv G175 := by rw [hG175]; exact pj_Inv_wa iG170 rfl (fun q hq => by cases hq; exact ⟨by show (0 : Int) ≤ _; omega, by show _ ≤ (7 : Int); omega, by show _ ≤ (0 : Int) ∨ (0 : Int) ≤ _; omega⟩) (fun n hn => by cases hn)
        have kG175 : pj_kpt kc_191 G0 G175 := by rw [hG175]; exact pj_kpt_a kG170 rfl
        rw [← hG175]
        refine pj_X_of (fun r h => pj_R_to (G175, 151, [(0, .ref 171), (1, .int v1), (2, .int v2), (3, .int v3), (4, .int v4)], [.ref 171], 0, 0) 151 2 (fun _ => rfl) h) ?_
        refine pj_X_of (fun r h => pj_T_gr iG175 rfl rfl rfl h) ?_
        refine pj_X_of (fun r h => pj_R_to (G175, 157, [(0, .ref 171), (1, .int v1), (2, .int v2), (3, .int v3), (4, .int v4)], [.ref 171, .int v4, .ref 175], 0, 0) 157 3 (fun _ => rfl) h) ?_
        refine pj_X_of (fun r h => pj_T_gr iG175 rfl rfl rfl h) ?_
        refine pj_X_of (fun r h => pj_R_to (G175, 164, [(0, .ref 171), (1, .int v1), (2, .int v2), (3, .int v3), (4, .int v4)], [.int ((Int32.ofInt 4) * v4), .ref 181, .int v4, .ref 175], 0, 0) 164 4 (fun _ => rfl) h) ?_
        obtain ⟨z176, hz176⟩ : ∃ z : Int32, z = (Int32.ofInt 4) * v4 := ⟨_, rfl⟩
        refine pj_X_eqi hz176.symm ?_
        have fz176_0 : z176.toInt = 4 * v4.toInt := by rw [hz176]; exact pj_mulL (by decide) (by omega) (by omega)
        refine pj_X_of (fun r h => pj_R_to (G175, 166, [(0, .ref 171), (1, .int v1), (2, .int v2), (3, .int v3), (4, .int v4)], [.int (z176 + (Int32.ofInt 2)), .ref 181, .int v4, .ref 175], 0, 0) 166 3 (fun _ => rfl) h) ?_
        obtain ⟨z177, hz177⟩ : ∃ z : Int32, z = z176 + (Int32.ofInt 2) := ⟨_, rfl⟩
        refine pj_X_eqi hz177.symm ?_
        have fz177_0 : z177.toInt = z176.toInt + (Int32.ofInt 2).toInt := by rw [hz177]; exact pj_addI (by have := pj_i32 z176; have := pj_i32 (Int32.ofInt 2); omega) (by have := pj_i32 z176; have := pj_i32 (Int32.ofInt 2); omega)
        refine pj_X_of (fun r h => pj_T_il iG175 rfl rfl (by omega) (by omega) h) ?_
        show pj_X _ _ G175 167 [(0, .ref 171), (1, .int v1), (2, .int v2), (3, .int v3), (4, .int v4)] [.int (pj_ai G175 181 z177.toInt.toNat), .int v4, .ref 175] _
        obtain ⟨z178, hz178⟩ : ∃ z : Int32, z = pj_ai G175 181 z177.toInt.toNat := ⟨_, rfl⟩
        refine pj_X_eqi hz178.symm ?_
        have ez178 : (pj_ai G175 181 z177.toInt.toNat).toInt = z178.toInt := by rw [hz178]
        have fz178_0 : (-1 : Int) ≤ z178.toInt ∧ z178.toInt ≤ 99 ∧ (z178.toInt ≤ -1 ∨ -1 ≤ z178.toInt) := by rw [hz178]; exact iG175.2.2.1 181 (40, -1, 99, -1, -1) rfl _ (by show _ < 40; omega)
        have k179 : z178.toInt = (pj_ai G 181 (4 * v4.toInt.toNat + 2)).toInt := by rw [hz178, hG175, pj_ai_wa_ne _ _ _ _ _ _ (by decide), hG170, pj_ai_wa_ne _ _ _ _ _ _ (by decide), show z177.toInt.toNat = 4 * v4.toInt.toNat + 2 by omega]
        refine pj_X_of (fun r h => pj_T_is iG175 rfl rfl (by omega) (by omega) h) ?_
        show pj_X _ _ (pj_wa G175 175 v4.toInt.toNat z178) 168 [(0, .ref 171), (1, .int v1), (2, .int v2), (3, .int v3), (4, .int v4)] [] _
        obtain ⟨G180, hG180⟩ : ∃ H, H = pj_wa G175 175 v4.toInt.toNat z178 := ⟨_, rfl⟩
        have iG180 : pj_Inv G180 := by rw [hG180]; exact pj_Inv_wa iG175 rfl (fun q hq => by cases hq; exact ⟨by show (0 : Int) ≤ _; omega, by show _ ≤ (99 : Int); omega, by show _ ≤ (0 : Int) ∨ (0 : Int) ≤ _; omega⟩) (fun n hn => by cases hn)
        have kG180 : pj_kpt kc_191 G0 G180 := by rw [hG180]; exact pj_kpt_a kG175 rfl
        rw [← hG180]
        refine pj_X_of (fun r h => pj_R_to (G180, 169, [(0, .ref 171), (1, .int v1), (2, .int v2), (3, .int v3), (4, .int v4)], [.ref 171], 0, 0) 169 2 (fun _ => rfl) h) ?_
        refine pj_X_of (fun r h => pj_T_gr iG180 rfl rfl rfl h) ?_
        refine pj_X_of (fun r h => pj_R_to (G180, 175, [(0, .ref 171), (1, .int v1), (2, .int v2), (3, .int v3), (4, .int v4)], [.ref 171, .int v4, .ref 176], 0, 0) 175 3 (fun _ => rfl) h) ?_
        refine pj_X_of (fun r h => pj_T_gr iG180 rfl rfl rfl h) ?_
        refine pj_X_of (fun r h => pj_R_to (G180, 182, [(0, .ref 171), (1, .int v1), (2, .int v2), (3, .int v3), (4, .int v4)], [.int ((Int32.ofInt 4) * v4), .ref 181, .int v4, .ref 176], 0, 0) 182 4 (fun _ => rfl) h) ?_
        obtain ⟨z181, hz181⟩ : ∃ z : Int32, z = (Int32.ofInt 4) * v4 := ⟨_, rfl⟩
        refine pj_X_eqi hz181.symm ?_
        have fz181_0 : z181.toInt = 4 * v4.toInt := by rw [hz181]; exact pj_mulL (by decide) (by omega) (by omega)
        refine pj_X_of (fun r h => pj_R_to (G180, 184, [(0, .ref 171), (1, .int v1), (2, .int v2), (3, .int v3), (4, .int v4)], [.int (z181 + (Int32.ofInt 3)), .ref 181, .int v4, .ref 176], 0, 0) 184 3 (fun _ => rfl) h) ?_
        obtain ⟨z182, hz182⟩ : ∃ z : Int32, z = z181 + (Int32.ofInt 3) := ⟨_, rfl⟩
        refine pj_X_eqi hz182.symm ?_
        have fz182_0 : z182.toInt = z181.toInt + (Int32.ofInt 3).toInt := by rw [hz182]; exact pj_addI (by have := pj_i32 z181; have := pj_i32 (Int32.ofInt 3); omega) (by have := pj_i32 z181; have := pj_i32 (Int32.ofInt 3); omega)
        refine pj_X_of (fun r h => pj_T_il iG180 rfl rfl (by omega) (by omega) h) ?_
        show pj_X _ _ G180 185 [(0, .ref 171), (1, .int v1), (2, .int v2), (3, .int v3), (4, .int v4)] [.int (pj_ai G180 181 z182.toInt.toNat), .int v4, .ref 176] _
        obtain ⟨z183, hz183⟩ : ∃ z : Int32, z = pj_ai G180 181 z182.toInt.toNat := ⟨_, rfl⟩
        refine pj_X_eqi hz183.symm ?_
        have ez183 : (pj_ai G180 181 z182.toInt.toNat).toInt = z183.toInt := by rw [hz183]
        have fz183_0 : (-1 : Int) ≤ z183.toInt ∧ z183.toInt ≤ 99 ∧ (z183.toInt ≤ -1 ∨ -1 ≤ z183.toInt) := by rw [hz183]; exact iG180.2.2.1 181 (40, -1, 99, -1, -1) rfl _ (by show _ < 40; omega)
        have k184 : z183.toInt = (pj_ai G 181 (4 * v4.toInt.toNat + 3)).toInt := by rw [hz183, hG180, pj_ai_wa_ne _ _ _ _ _ _ (by decide), hG175, pj_ai_wa_ne _ _ _ _ _ _ (by decide), hG170, pj_ai_wa_ne _ _ _ _ _ _ (by decide), show z182.toInt.toNat = 4 * v4.toInt.toNat + 3 by omega]
        refine pj_X_of (fun r h => pj_T_is iG180 rfl rfl (by omega) (by omega) h) ?_
        show pj_X _ _ (pj_wa G180 176 v4.toInt.toNat z183) 186 [(0, .ref 171), (1, .int v1), (2, .int v2), (3, .int v3), (4, .int v4)] [] _
        obtain ⟨G185, hG185⟩ : ∃ H, H = pj_wa G180 176 v4.toInt.toNat z183 := ⟨_, rfl⟩
        have iG185 : pj_Inv G185 := by rw [hG185]; exact pj_Inv_wa iG180 rfl (fun q hq => by cases hq) (fun n hn => by cases hn)
        have kG185 : pj_kpt kc_191 G0 G185 := by rw [hG185]; exact pj_kpt_a kG180 rfl
        rw [← hG185]
        refine pj_X_of (fun r h => pj_R_to (G185, 189, [(4, .int (v4 + Int32.ofInt 1)), (0, .ref 171), (1, .int v1), (2, .int v2), (3, .int v3)], [], 0, 0) 189 2 (fun _ => rfl) h) ?_
        obtain ⟨z186, hz186⟩ : ∃ z : Int32, z = v4 + Int32.ofInt 1 := ⟨_, rfl⟩
        rw [← hz186]
        have fz186_0 : z186.toInt = v4.toInt + (Int32.ofInt 1).toInt := by rw [hz186]; exact pj_addI (by have := pj_i32 v4; have := pj_i32 (Int32.ofInt 1); omega) (by have := pj_i32 v4; have := pj_i32 (Int32.ofInt 1); omega)
        refine pj_X_of (fun r h => pj_R_to (G185, 107, [(4, .int z186), (0, .ref 171), (1, .int v1), (2, .int v2), (3, .int v3)], [], 0, 0) 107 2 (fun _ => rfl) h) ?_
        have q187 : (pj_fi G185 171 30).toInt = y136.toInt := by rw [show pj_fi G185 171 30 = y136 from by rw [hG185, pj_fi_wa]; exact (by rw [hG180, pj_fi_wa]; exact (by rw [hG175, pj_fi_wa]; exact (by rw [hG170, pj_fi_wa]; exact hy136.symm)))]
        have q188 : (pj_fi G185 171 22).toInt = y137.toInt := by rw [show pj_fi G185 171 22 = y137 from by rw [hG185, pj_fi_wa]; exact (by rw [hG180, pj_fi_wa]; exact (by rw [hG175, pj_fi_wa]; exact (by rw [hG170, pj_fi_wa]; exact hy137.symm)))]
        have q189 : (pj_fi G185 171 21).toInt = y138.toInt := by rw [show pj_fi G185 171 21 = y138 from by rw [hG185, pj_fi_wa]; exact (by rw [hG180, pj_fi_wa]; exact (by rw [hG175, pj_fi_wa]; exact (by rw [hG170, pj_fi_wa]; exact hy138.symm)))]
        have q190 : (pj_fi G185 171 3).toInt = y139.toInt := by rw [show pj_fi G185 171 3 = y139 from by rw [hG185, pj_fi_wa]; exact (by rw [hG180, pj_fi_wa]; exact (by rw [hG175, pj_fi_wa]; exact (by rw [hG170, pj_fi_wa]; exact hy139.symm)))]
        have q191 : (pj_fi G185 171 4).toInt = y140.toInt := by rw [show pj_fi G185 171 4 = y140 from by rw [hG185, pj_fi_wa]; exact (by rw [hG180, pj_fi_wa]; exact (by rw [hG175, pj_fi_wa]; exact (by rw [hG170, pj_fi_wa]; exact hy140.symm)))]
        have v192 : (pj_ai G185 173 v4.toInt.toNat).toInt = z168.toInt := by rw [hG185, pj_ai_wa_ne _ _ _ _ _ _ (by decide), hG180, pj_ai_wa_ne _ _ _ _ _ _ (by decide), hG175, pj_ai_wa_ne _ _ _ _ _ _ (by decide), hG170, pj_ai_wa_eq hI.1 rfl]
        have v193 : (pj_ai G185 174 v4.toInt.toNat).toInt = z173.toInt := by rw [hG185, pj_ai_wa_ne _ _ _ _ _ _ (by decide), hG180, pj_ai_wa_ne _ _ _ _ _ _ (by decide), hG175, pj_ai_wa_eq iG170.1 rfl]
        have hold : ∀ j : Nat, j < v4.toInt.toNat → pj_ai G185 173 j = pj_ai G 173 j ∧ pj_ai G185 174 j = pj_ai G 174 j := fun j hj => ⟨by rw [hG185, pj_ai_wa_ne _ _ _ _ _ _ (by decide), hG180, pj_ai_wa_ne _ _ _ _ _ _ (by decide), hG175, pj_ai_wa_ne _ _ _ _ _ _ (by decide), hG170, pj_ai_wa_nj _ _ _ _ _ (by omega)], by rw [hG185, pj_ai_wa_ne _ _ _ _ _ _ (by decide), hG180, pj_ai_wa_ne _ _ _ _ _ _ (by decide), hG175, pj_ai_wa_nj _ _ _ _ _ (by omega), hG170, pj_ai_wa_ne _ _ _ _ _ _ (by decide)]⟩
        have eb194 : pj_fi G185 171 3 = pj_fi G 171 3 := by rw [hG185, pj_fi_wa, hG180, pj_fi_wa, hG175, pj_fi_wa, hG170, pj_fi_wa]
        exact pj_X_sub [(0, .ref 171), (1, .int v1), (2, .int v2), (3, .int v3), (4, .int z186)] (show List.Nodup [0, 1, 2, 3, 4] by decide) ⟨rfl, rfl, rfl, rfl, rfl, trivial⟩ (ih.2 G185 iG185 kG185 v1 v2 v3 z186 ⟨by omega, by omega⟩ ⟨by omega, by omega⟩ (pj_i32 _) ⟨by omega, by omega⟩ (by rw [show pj_fi G185 171 4 = pj_fi G 171 4 from by rw [hG185, pj_fi_wa, hG180, pj_fi_wa, hG175, pj_fi_wa, hG170, pj_fi_wa], show pj_fi G185 171 3 = pj_fi G 171 3 from by rw [hG185, pj_fi_wa, hG180, pj_fi_wa, hG175, pj_fi_wa, hG170, pj_fi_wa]]; exact pj_rd_k (fun j => by rw [hG185, pj_ai_wa_ne _ _ _ _ _ _ (by decide), hG180, pj_ai_wa_ne _ _ _ _ _ _ (by decide), hG175, pj_ai_wa_ne _ _ _ _ _ _ (by decide), hG170, pj_ai_wa_ne _ _ _ _ _ _ (by decide)]) x0_) (by rw [eb194, show z186.toInt = v4.toInt + 1 by omega]; exact pj_ro_s x1_ v4.toInt.toNat (by omega) hold (by omega) (by omega)) (by omega) (by omega) (by omega))
theorem ct_191 (G0 : pj_G) (hI : pj_Inv G0) (p0_ : pj_RI G0) (p1_ : (pj_fi G0 171 30).toInt ≤ 15) : pj_Y 19 191 [.ref 171] G0 (fun v G' => ∃ y : Int32, v = some (.int y) ∧ pj_Inv G' ∧ pj_kpt kc_191 G0 G' ∧ ((-2147483648 : Int) ≤ y.toInt ∧ y.toInt ≤ 2147483647) ∧ (pj_RI G' ∧ (pj_fi G' 171 30).toInt ≤ 15)) := by
  have c0_ : ((Int8.ofInt 10).toInt32).toInt = 10 := by decide
  have c1_ : ((Int8.ofInt 30).toInt32).toInt = 30 := by decide
  have c2_ : ((Int8.ofInt 31).toInt32).toInt = 31 := by decide
  have c3_ : ((Int8.ofInt 59).toInt32).toInt = 59 := by decide
  have c4_ : ((Int8.ofInt 72).toInt32).toInt = 72 := by decide
  have c5_ : (Int32.ofInt 0).toInt = 0 := by decide
  have c6_ : (Int32.ofInt 1).toInt = 1 := by decide
  have c7_ : (Int32.ofInt 2).toInt = 2 := by decide
  have c8_ : (Int32.ofInt 3).toInt = 3 := by decide
  have c9_ : (Int32.ofInt 4).toInt = 4 := by decide
  refine pj_Y_X (M := pj_m191) rfl rfl (Nat.le_of_ble_eq_true rfl) ?_
  have hK : pj_kpt kc_191 G0 G0 := pj_kpt_r _ _
  show pj_X _ _ G0 0 [(0, .ref 171)] [] _
  obtain ⟨y195, hy195⟩ : ∃ z : Int32, z = pj_fi G0 171 30 := ⟨_, rfl⟩
  have ey195 : (pj_fi G0 171 30).toInt = y195.toInt := by rw [hy195]
  have ry195 : (0 : Int) ≤ y195.toInt ∧ y195.toInt ≤ 16 := by rw [hy195]; exact hI.2.1 171 30 (0, 16) rfl
  obtain ⟨y196, hy196⟩ : ∃ z : Int32, z = pj_fi G0 171 22 := ⟨_, rfl⟩
  have ey196 : (pj_fi G0 171 22).toInt = y196.toInt := by rw [hy196]
  have ry196 : (0 : Int) ≤ y196.toInt ∧ y196.toInt ≤ 10 := by rw [hy196]; exact hI.2.1 171 22 (0, 10) rfl
  obtain ⟨y197, hy197⟩ : ∃ z : Int32, z = pj_fi G0 171 21 := ⟨_, rfl⟩
  have ey197 : (pj_fi G0 171 21).toInt = y197.toInt := by rw [hy197]
  have ry197 : (0 : Int) ≤ y197.toInt ∧ y197.toInt ≤ 8 := by rw [hy197]; exact hI.2.1 171 21 (0, 8) rfl
  obtain ⟨y198, hy198⟩ : ∃ z : Int32, z = pj_fi G0 171 3 := ⟨_, rfl⟩
  have ey198 : (pj_fi G0 171 3).toInt = y198.toInt := by rw [hy198]
  have ry198 : (0 : Int) ≤ y198.toInt ∧ y198.toInt ≤ 8 := by rw [hy198]; exact hI.2.1 171 3 (0, 8) rfl
  obtain ⟨y199, hy199⟩ : ∃ z : Int32, z = pj_fi G0 171 4 := ⟨_, rfl⟩
  have ey199 : (pj_fi G0 171 4).toInt = y199.toInt := by rw [hy199]
  have ry199 : (0 : Int) ≤ y199.toInt ∧ y199.toInt ≤ 10 := by rw [hy199]; exact hI.2.1 171 4 (0, 10) rfl
  refine pj_X_of (fun r h => pj_R_to (G0, 2, [(0, .ref 171)], [.int (Int32.ofInt 0), .ref 171], 0, 0) 2 3 (fun _ => rfl) h) ?_
  refine pj_X_of (fun r h => pj_T_pf hI rfl rfl rfl h) ?_
  show pj_X _ _ (pj_wv G0 171 0 (.int (Int32.ofInt 0))) 5 [(0, .ref 171)] [] _
  obtain ⟨G200, hG200⟩ : ∃ H, H = pj_wv G0 171 0 (.int (Int32.ofInt 0)) := ⟨_, rfl⟩
  have iG200 : pj_Inv G200 := by rw [hG200]; exact pj_Inv_wi hI (ci := 12) rfl (fun q hq => by cases hq)
  have kG200 : pj_kpt kc_191 G0 G200 := by rw [hG200]; exact pj_kpt_v hK rfl
  rw [← hG200]
  refine pj_X_of (fun r h => pj_R_to (G200, 8, [(0, .ref 171)], [.int ((Int8.ofInt 72).toInt32), .ref 171], 0, 0) 8 3 (fun _ => rfl) h) ?_
  have q201 : (pj_fi G200 171 30).toInt = y195.toInt := by rw [show pj_fi G200 171 30 = y195 from by rw [hG200, pj_fi_wv_ne _ _ _ _ _ _ (by decide)]; exact hy195.symm]
  have q202 : (pj_fi G200 171 22).toInt = y196.toInt := by rw [show pj_fi G200 171 22 = y196 from by rw [hG200, pj_fi_wv_ne _ _ _ _ _ _ (by decide)]; exact hy196.symm]
  have q203 : (pj_fi G200 171 21).toInt = y197.toInt := by rw [show pj_fi G200 171 21 = y197 from by rw [hG200, pj_fi_wv_ne _ _ _ _ _ _ (by decide)]; exact hy197.symm]
  have q204 : (pj_fi G200 171 3).toInt = y198.toInt := by rw [show pj_fi G200 171 3 = y198 from by rw [hG200, pj_fi_wv_ne _ _ _ _ _ _ (by decide)]; exact hy198.symm]
  have q205 : (pj_fi G200 171 4).toInt = y199.toInt := by rw [show pj_fi G200 171 4 = y199 from by rw [hG200, pj_fi_wv_ne _ _ _ _ _ _ (by decide)]; exact hy199.symm]
  refine pj_X_ca (vs := [.ref 171, .int ((Int8.ofInt 72).toInt32)]) rfl (fun _ => rfl) ⟨Nat.le_of_ble_eq_true rfl, Nat.le_of_ble_eq_true rfl, pj_T_rcv iG200 rfl⟩ ⟨rfl, rfl⟩ (pj_Y_up (by decide) (ct_181 G200 iG200 ((Int8.ofInt 72).toInt32) ⟨by omega, by omega⟩)) ?_
  rintro _ G207 ⟨y206, rfl, iG207, jG207, ry206, ey206⟩
  have kG207 : pj_kpt kc_191 G0 G207 := pj_kpt_t kG200 (pj_kpt_s jG207 rfl)
  have q208 : (pj_fi G207 171 30).toInt = (pj_fi G200 171 30).toInt := by rw [jG207.1 (171, 30) (by decide)]
  have q209 : (pj_fi G207 171 22).toInt = (pj_fi G200 171 22).toInt := by rw [jG207.1 (171, 22) (by decide)]
  have q210 : (pj_fi G207 171 21).toInt = (pj_fi G200 171 21).toInt := by rw [jG207.1 (171, 21) (by decide)]
  have q211 : (pj_fi G207 171 3).toInt = (pj_fi G200 171 3).toInt := by rw [jG207.1 (171, 3) (by decide)]
  have q212 : (pj_fi G207 171 4).toInt = (pj_fi G200 171 4).toInt := by rw [jG207.1 (171, 4) (by decide)]
  obtain ⟨y213, hy213⟩ : ∃ z : Int32, z = pj_fi G207 171 30 := ⟨_, rfl⟩
  have ey213 : (pj_fi G207 171 30).toInt = y213.toInt := by rw [hy213]
  have ry213 : (0 : Int) ≤ y213.toInt ∧ y213.toInt ≤ 16 := by rw [hy213]; exact iG207.2.1 171 30 (0, 16) rfl
  obtain ⟨y214, hy214⟩ : ∃ z : Int32, z = pj_fi G207 171 22 := ⟨_, rfl⟩
  have ey214 : (pj_fi G207 171 22).toInt = y214.toInt := by rw [hy214]
  have ry214 : (0 : Int) ≤ y214.toInt ∧ y214.toInt ≤ 10 := by rw [hy214]; exact iG207.2.1 171 22 (0, 10) rfl
  obtain ⟨y215, hy215⟩ : ∃ z : Int32, z = pj_fi G207 171 21 := ⟨_, rfl⟩
  have ey215 : (pj_fi G207 171 21).toInt = y215.toInt := by rw [hy215]
  have ry215 : (0 : Int) ≤ y215.toInt ∧ y215.toInt ≤ 8 := by rw [hy215]; exact iG207.2.1 171 21 (0, 8) rfl
  obtain ⟨y216, hy216⟩ : ∃ z : Int32, z = pj_fi G207 171 3 := ⟨_, rfl⟩
  have ey216 : (pj_fi G207 171 3).toInt = y216.toInt := by rw [hy216]
  have ry216 : (0 : Int) ≤ y216.toInt ∧ y216.toInt ≤ 8 := by rw [hy216]; exact iG207.2.1 171 3 (0, 8) rfl
  obtain ⟨y217, hy217⟩ : ∃ z : Int32, z = pj_fi G207 171 4 := ⟨_, rfl⟩
  have ey217 : (pj_fi G207 171 4).toInt = y217.toInt := by rw [hy217]
  have ry217 : (0 : Int) ≤ y217.toInt ∧ y217.toInt ≤ 10 := by rw [hy217]; exact iG207.2.1 171 4 (0, 10) rfl
  show pj_X _ _ G207 11 [(0, .ref 171)] [.int y206] _
  refine pj_X_of (fun r h => pj_R_to (G207, 14, [(1, .int y206), (0, .ref 171)], [.int (Int32.ofInt 0), .ref 171], 0, 0) 14 4 (fun _ => rfl) h) ?_
  refine pj_X_of (fun r h => pj_T_pf iG207 rfl rfl rfl h) ?_
  show pj_X _ _ (pj_wv G207 171 22 (.int (Int32.ofInt 0))) 17 [(1, .int y206), (0, .ref 171)] [] _
  obtain ⟨G218, hG218⟩ : ∃ H, H = pj_wv G207 171 22 (.int (Int32.ofInt 0)) := ⟨_, rfl⟩
  have iG218 : pj_Inv G218 := by rw [hG218]; exact pj_Inv_wi iG207 (ci := 12) rfl (fun q hq => by cases hq; exact ⟨by show (0 : Int) ≤ _; omega, by show _ ≤ (10 : Int); omega⟩)
  have kG218 : pj_kpt kc_191 G0 G218 := by rw [hG218]; exact pj_kpt_v kG207 rfl
  rw [← hG218]
  refine pj_X_of (fun r h => pj_R_to (G218, 22, [(1, .int y206), (0, .ref 171)], [.retAddr 10, .ref 171, .int (Int32.ofInt 2), .ref 171], 0, 0) 22 5 (fun _ => rfl) h) ?_
  have q219 : (pj_fi G218 171 30).toInt = y213.toInt := by rw [show pj_fi G218 171 30 = y213 from by rw [hG218, pj_fi_wv_ne _ _ _ _ _ _ (by decide)]; exact hy213.symm]
  have q220 : (pj_fi G218 171 22).toInt = (Int32.ofInt 0).toInt := by rw [show pj_fi G218 171 22 = Int32.ofInt 0 from by rw [hG218]; exact pj_fi_wi iG207.1 (ci := 12) rfl _]
  have q221 : (pj_fi G218 171 21).toInt = y215.toInt := by rw [show pj_fi G218 171 21 = y215 from by rw [hG218, pj_fi_wv_ne _ _ _ _ _ _ (by decide)]; exact hy215.symm]
  have q222 : (pj_fi G218 171 3).toInt = y216.toInt := by rw [show pj_fi G218 171 3 = y216 from by rw [hG218, pj_fi_wv_ne _ _ _ _ _ _ (by decide)]; exact hy216.symm]
  have q223 : (pj_fi G218 171 4).toInt = y217.toInt := by rw [show pj_fi G218 171 4 = y217 from by rw [hG218, pj_fi_wv_ne _ _ _ _ _ _ (by decide)]; exact hy217.symm]
  refine pj_X_ca (vs := [.ref 171, .retAddr 10]) rfl (fun _ => rfl) ⟨Nat.le_of_ble_eq_true rfl, Nat.le_of_ble_eq_true rfl, pj_T_rcv iG218 rfl⟩ ⟨rfl, rfl⟩ (pj_Y_up (by decide) (ct_185_s10 G218 iG218)) ?_
  rintro _ G225 ⟨y224, rfl, iG225, jG225, ry224, ey224⟩
  have kG225 : pj_kpt kc_191 G0 G225 := pj_kpt_t kG218 (pj_kpt_s jG225 rfl)
  have q226 : (pj_fi G225 171 30).toInt = (pj_fi G218 171 30).toInt := by rw [jG225.1 (171, 30) (by decide)]
  have q227 : (pj_fi G225 171 22).toInt = (pj_fi G218 171 22).toInt := by rw [jG225.1 (171, 22) (by decide)]
  have q228 : (pj_fi G225 171 21).toInt = (pj_fi G218 171 21).toInt := by rw [jG225.1 (171, 21) (by decide)]
  have q229 : (pj_fi G225 171 3).toInt = (pj_fi G218 171 3).toInt := by rw [jG225.1 (171, 3) (by decide)]
  have q230 : (pj_fi G225 171 4).toInt = (pj_fi G218 171 4).toInt := by rw [jG225.1 (171, 4) (by decide)]
  obtain ⟨y231, hy231⟩ : ∃ z : Int32, z = pj_fi G225 171 30 := ⟨_, rfl⟩
  have ey231 : (pj_fi G225 171 30).toInt = y231.toInt := by rw [hy231]
  have ry231 : (0 : Int) ≤ y231.toInt ∧ y231.toInt ≤ 16 := by rw [hy231]; exact iG225.2.1 171 30 (0, 16) rfl
  obtain ⟨y232, hy232⟩ : ∃ z : Int32, z = pj_fi G225 171 22 := ⟨_, rfl⟩
  have ey232 : (pj_fi G225 171 22).toInt = y232.toInt := by rw [hy232]
  have ry232 : (0 : Int) ≤ y232.toInt ∧ y232.toInt ≤ 10 := by rw [hy232]; exact iG225.2.1 171 22 (0, 10) rfl
  obtain ⟨y233, hy233⟩ : ∃ z : Int32, z = pj_fi G225 171 21 := ⟨_, rfl⟩
  have ey233 : (pj_fi G225 171 21).toInt = y233.toInt := by rw [hy233]
  have ry233 : (0 : Int) ≤ y233.toInt ∧ y233.toInt ≤ 8 := by rw [hy233]; exact iG225.2.1 171 21 (0, 8) rfl
  obtain ⟨y234, hy234⟩ : ∃ z : Int32, z = pj_fi G225 171 3 := ⟨_, rfl⟩
  have ey234 : (pj_fi G225 171 3).toInt = y234.toInt := by rw [hy234]
  have ry234 : (0 : Int) ≤ y234.toInt ∧ y234.toInt ≤ 8 := by rw [hy234]; exact iG225.2.1 171 3 (0, 8) rfl
  obtain ⟨y235, hy235⟩ : ∃ z : Int32, z = pj_fi G225 171 4 := ⟨_, rfl⟩
  have ey235 : (pj_fi G225 171 4).toInt = y235.toInt := by rw [hy235]
  have ry235 : (0 : Int) ≤ y235.toInt ∧ y235.toInt ≤ 10 := by rw [hy235]; exact iG225.2.1 171 4 (0, 10) rfl
  show pj_X _ _ G225 25 [(1, .int y206), (0, .ref 171)] [.int y224, .int (Int32.ofInt 2), .ref 171] _
  refine pj_X_of (fun r h => pj_R_to (G225, 26, [(1, .int y206), (0, .ref 171)], [.int ((Int32.ofInt 2) + y224), .ref 171], 0, 0) 26 2 (fun _ => rfl) h) ?_
  obtain ⟨z236, hz236⟩ : ∃ z : Int32, z = (Int32.ofInt 2) + y224 := ⟨_, rfl⟩
  refine pj_X_eqi hz236.symm ?_
  have fz236_0 : z236.toInt = (Int32.ofInt 2).toInt + y224.toInt := by rw [hz236]; exact pj_addI (by have := pj_i32 (Int32.ofInt 2); have := pj_i32 y224; omega) (by have := pj_i32 (Int32.ofInt 2); have := pj_i32 y224; omega)
  refine pj_X_of (fun r h => pj_T_pf iG225 rfl rfl rfl h) ?_
  show pj_X _ _ (pj_wv G225 171 21 (.int z236)) 29 [(1, .int y206), (0, .ref 171)] [] _
  obtain ⟨G237, hG237⟩ : ∃ H, H = pj_wv G225 171 21 (.int z236) := ⟨_, rfl⟩
  have iG237 : pj_Inv G237 := by rw [hG237]; exact pj_Inv_wi iG225 (ci := 12) rfl (fun q hq => by cases hq; exact ⟨by show (0 : Int) ≤ _; omega, by show _ ≤ (8 : Int); omega⟩)
  have kG237 : pj_kpt kc_191 G0 G237 := by rw [hG237]; exact pj_kpt_v kG225 rfl
  rw [← hG237]
  refine pj_X_of (fun r h => pj_R_to (G237, 30, [(1, .int y206), (0, .ref 171)], [.ref 171], 0, 0) 30 2 (fun _ => rfl) h) ?_
  refine pj_X_of (fun r h => pj_T_gi iG237 rfl rfl h) ?_
  show pj_X _ _ G237 33 [(1, .int y206), (0, .ref 171)] [.int (pj_fi G237 171 21)] _
  refine pj_X_eqi (show pj_fi G237 171 21 = z236 from by rw [hG237]; exact pj_fi_wi iG225.1 (ci := 12) rfl _) ?_
  refine pj_X_of (fun r h => pj_R_to (G237, 34, [(1, .int y206), (0, .ref 171)], [.int (Int32.ofInt 1), .int z236], 0, 0) 34 2 (fun _ => rfl) h) ?_
  cases b238 : pj_c1 .le z236 (Int32.ofInt 1) with
  | true =>
    have ub238 := pj_u_leT b238
    refine pj_X_of (fun r h => pj_R_icT 41 rfl rfl b238 h) ?_
    refine pj_X_of (fun r h => pj_R_to (G237, 43, [(2, .int (Int32.ofInt 0)), (1, .int y206), (0, .ref 171)], [], 0, 0) 43 3 (fun _ => rfl) h) ?_
    have q239 : (pj_fi G237 171 30).toInt = y231.toInt := by rw [show pj_fi G237 171 30 = y231 from by rw [hG237, pj_fi_wv_ne _ _ _ _ _ _ (by decide)]; exact hy231.symm]
    have q240 : (pj_fi G237 171 22).toInt = y232.toInt := by rw [show pj_fi G237 171 22 = y232 from by rw [hG237, pj_fi_wv_ne _ _ _ _ _ _ (by decide)]; exact hy232.symm]
    have q241 : (pj_fi G237 171 21).toInt = z236.toInt := by rw [show pj_fi G237 171 21 = z236 from by rw [hG237]; exact pj_fi_wi iG225.1 (ci := 12) rfl _]
    have q242 : (pj_fi G237 171 3).toInt = y234.toInt := by rw [show pj_fi G237 171 3 = y234 from by rw [hG237, pj_fi_wv_ne _ _ _ _ _ _ (by decide)]; exact hy234.symm]
    have q243 : (pj_fi G237 171 4).toInt = y235.toInt := by rw [show pj_fi G237 171 4 = y235 from by rw [hG237, pj_fi_wv_ne _ _ _ _ _ _ (by decide)]; exact hy235.symm]
    have t244 : pj_kpt ([(171, 0), (171, 16), (171, 17), (171, 18), (171, 19), (171, 21), (171, 22)], [171], []) G0 G0 := pj_kpt_r _ _
    have t245 : pj_kpt ([(171, 0), (171, 16), (171, 17), (171, 18), (171, 19), (171, 21), (171, 22)], [171], []) G0 G200 := by rw [hG200]; exact pj_kpt_v t244 rfl
    have t246 : pj_kpt ([(171, 0), (171, 16), (171, 17), (171, 18), (171, 19), (171, 21), (171, 22)], [171], []) G0 G207 := pj_kpt_t t245 (pj_kpt_s jG207 rfl)
    have t247 : pj_kpt ([(171, 0), (171, 16), (171, 17), (171, 18), (171, 19), (171, 21), (171, 22)], [171], []) G0 G218 := by rw [hG218]; exact pj_kpt_v t246 rfl
    have t248 : pj_kpt ([(171, 0), (171, 16), (171, 17), (171, 18), (171, 19), (171, 21), (171, 22)], [171], []) G0 G225 := pj_kpt_t t247 (pj_kpt_s jG225 rfl)
    have t249 : pj_kpt ([(171, 0), (171, 16), (171, 17), (171, 18), (171, 19), (171, 21), (171, 22)], [171], []) G0 G237 := by rw [hG237]; exact pj_kpt_v t248 rfl
    exact pj_X_sub [(0, .ref 171), (1, .int y206), (2, .int (Int32.ofInt 0))] (show List.Nodup [0, 1, 2] by decide) ⟨rfl, rfl, rfl, trivial⟩ ((lp_ct_191 G0 hI   p0_ p1_ 2001).1 G237 iG237 kG237 y206 (Int32.ofInt 0) ⟨by omega, by omega⟩ ⟨by omega, by omega⟩ (pj_RI_k p0_ t249 rfl) (fun _ => pj_rd_0 (by omega)) (by omega) (by omega) (by omega))
  | false =>
    have ub238 := pj_u_leF b238
    refine pj_X_of (fun r h => pj_R_icF rfl b238 h) ?_
    refine pj_X_of (fun r h => pj_R_to (G237, 43, [(2, .int (Int32.ofInt 1)), (1, .int y206), (0, .ref 171)], [], 0, 0) 43 4 (fun _ => rfl) h) ?_
    have q250 : (pj_fi G237 171 30).toInt = y231.toInt := by rw [show pj_fi G237 171 30 = y231 from by rw [hG237, pj_fi_wv_ne _ _ _ _ _ _ (by decide)]; exact hy231.symm]
    have q251 : (pj_fi G237 171 22).toInt = y232.toInt := by rw [show pj_fi G237 171 22 = y232 from by rw [hG237, pj_fi_wv_ne _ _ _ _ _ _ (by decide)]; exact hy232.symm]
    have q252 : (pj_fi G237 171 21).toInt = z236.toInt := by rw [show pj_fi G237 171 21 = z236 from by rw [hG237]; exact pj_fi_wi iG225.1 (ci := 12) rfl _]
    have q253 : (pj_fi G237 171 3).toInt = y234.toInt := by rw [show pj_fi G237 171 3 = y234 from by rw [hG237, pj_fi_wv_ne _ _ _ _ _ _ (by decide)]; exact hy234.symm]
    have q254 : (pj_fi G237 171 4).toInt = y235.toInt := by rw [show pj_fi G237 171 4 = y235 from by rw [hG237, pj_fi_wv_ne _ _ _ _ _ _ (by decide)]; exact hy235.symm]
    have t255 : pj_kpt ([(171, 0), (171, 16), (171, 17), (171, 18), (171, 19), (171, 21), (171, 22)], [171], []) G0 G0 := pj_kpt_r _ _
    have t256 : pj_kpt ([(171, 0), (171, 16), (171, 17), (171, 18), (171, 19), (171, 21), (171, 22)], [171], []) G0 G200 := by rw [hG200]; exact pj_kpt_v t255 rfl
    have t257 : pj_kpt ([(171, 0), (171, 16), (171, 17), (171, 18), (171, 19), (171, 21), (171, 22)], [171], []) G0 G207 := pj_kpt_t t256 (pj_kpt_s jG207 rfl)
    have t258 : pj_kpt ([(171, 0), (171, 16), (171, 17), (171, 18), (171, 19), (171, 21), (171, 22)], [171], []) G0 G218 := by rw [hG218]; exact pj_kpt_v t257 rfl
    have t259 : pj_kpt ([(171, 0), (171, 16), (171, 17), (171, 18), (171, 19), (171, 21), (171, 22)], [171], []) G0 G225 := pj_kpt_t t258 (pj_kpt_s jG225 rfl)
    have t260 : pj_kpt ([(171, 0), (171, 16), (171, 17), (171, 18), (171, 19), (171, 21), (171, 22)], [171], []) G0 G237 := by rw [hG237]; exact pj_kpt_v t259 rfl
    exact pj_X_sub [(0, .ref 171), (1, .int y206), (2, .int (Int32.ofInt 1))] (show List.Nodup [0, 1, 2] by decide) ⟨rfl, rfl, rfl, trivial⟩ ((lp_ct_191 G0 hI   p0_ p1_ 2001).1 G237 iG237 kG237 y206 (Int32.ofInt 1) ⟨by omega, by omega⟩ ⟨by omega, by omega⟩ (pj_RI_k p0_ t260 rfl) (fun _ => pj_rd_0 (by omega)) (by omega) (by omega) (by omega))
