theorem pj_ai_wa_nj (G : pj_G) (a j : Nat) (x : Int32) (i : Nat) (h : i ≠ j) : pj_ai (pj_wa G a j x) a i = pj_ai G a i := by
  rcases pj_ai_wa_or G a j x i with e | ⟨e, -⟩
  · exact e
  · exact absurd e h
/-- crossings that were read: their banks, their places -/
def pj_rd (G : pj_G) (m B : Int) : Prop := ∀ c : Nat, (c : Int) < m → (0 ≤ (pj_ai G 181 (4 * c)).toInt ∧ (pj_ai G 181 (4 * c)).toInt < B) ∧ (0 ≤ (pj_ai G 181 (4 * c + 1)).toInt ∧ (pj_ai G 181 (4 * c + 1)).toInt < B) ∧ 0 ≤ (pj_ai G 181 (4 * c + 2)).toInt
theorem pj_rd_0 {G : pj_G} {m B : Int} (h : m ≤ 0) : pj_rd G m B := fun c hc => absurd hc (by omega)
theorem pj_rd_k {G G' : pj_G} {m B : Int} (h : ∀ j, pj_ai G' 181 j = pj_ai G 181 j) (q : pj_rd G m B) : pj_rd G' m B := fun c hc => by
  rw [h, h, h]
  exact q c hc
theorem pj_rd_s {G G' : pj_G} {m B : Int} (q : pj_rd G m B) (r : Nat) (hr : (r : Int) = m) (hold : ∀ j : Nat, j < 4 * r → pj_ai G' 181 j = pj_ai G 181 j) (h0 : 0 ≤ (pj_ai G' 181 (4 * r)).toInt ∧ (pj_ai G' 181 (4 * r)).toInt < B) (h1 : 0 ≤ (pj_ai G' 181 (4 * r + 1)).toInt ∧ (pj_ai G' 181 (4 * r + 1)).toInt < B) (h2 : 0 ≤ (pj_ai G' 181 (4 * r + 2)).toInt) : pj_rd G' (m + 1) B := fun c hc => by
  by_cases e : c = r
  · subst e
    exact ⟨h0, h1, h2⟩
  · rw [hold _ (by omega), hold _ (by omega), hold _ (by omega)]
    exact q c (by omega)
/-- people that were read: their banks -/
def pj_re (G : pj_G) (m : Int) : Prop := ∀ c : Nat, (c : Int) < m → 0 ≤ (pj_ai G 181 (2 * c)).toInt ∧ (pj_ai G 181 (2 * c)).toInt ≤ 7
theorem pj_re_0 {G : pj_G} {m : Int} (h : m ≤ 0) : pj_re G m := fun c hc => absurd hc (by omega)
theorem pj_re_k {G G' : pj_G} {m : Int} (h : ∀ j, pj_ai G' 181 j = pj_ai G 181 j) (q : pj_re G m) : pj_re G' m := fun c hc => by
  rw [h]
  exact q c hc
theorem pj_re_s {G G' : pj_G} {m : Int} (q : pj_re G m) (r : Nat) (hr : (r : Int) = m) (hold : ∀ j : Nat, j < 2 * r → pj_ai G' 181 j = pj_ai G 181 j) (h0 : 0 ≤ (pj_ai G' 181 (2 * r)).toInt ∧ (pj_ai G' 181 (2 * r)).toInt ≤ 7) : pj_re G' (m + 1) := fun c hc => by
  by_cases e : c = r
  · subst e
    exact h0
  · rw [hold _ (by omega)]
    exact q c (by omega)
/-- crossings that were taken over: their banks -/
def pj_ro (G : pj_G) (m B : Int) : Prop := ∀ c : Nat, (c : Int) < m → (pj_ai G 173 c).toInt < B ∧ (pj_ai G 174 c).toInt < B
theorem pj_ro_0 {G : pj_G} {m B : Int} (h : m ≤ 0) : pj_ro G m B := fun c hc => absurd hc (by omega)
theorem pj_ro_s {G G' : pj_G} {m B : Int} (q : pj_ro G m B) (r : Nat) (hr : (r : Int) = m) (hold : ∀ j : Nat, j < r → pj_ai G' 173 j = pj_ai G 173 j ∧ pj_ai G' 174 j = pj_ai G 174 j) (h0 : (pj_ai G' 173 r).toInt < B) (h1 : (pj_ai G' 174 r).toInt < B) : pj_ro G' (m + 1) B := fun c hc => by
  by_cases e : c = r
  · subst e
    exact ⟨h0, h1⟩
  · rw [(hold c (by omega)).1, (hold c (by omega)).2]
    exact q c (by omega)
theorem pj_RI_of {G G0 : pj_G} (h : pj_ro G (pj_fi G 171 4).toInt (pj_fi G 171 3).toInt) (h0 : pj_RI G0) (e1 : pj_fi G 171 26 = pj_fi G0 171 26) (e2 : ∀ j, pj_ai G 182 j = pj_ai G0 182 j) : pj_RI G := by
  refine ⟨h, ?_⟩
  rw [e1, show (fun j => pj_ai G 182 j) = (fun j => pj_ai G0 182 j) from funext e2]
  exact h0.2
theorem pj_ro_k {G G' : pj_G} {m B : Int} (h1 : ∀ j, pj_ai G' 173 j = pj_ai G 173 j) (h2 : ∀ j, pj_ai G' 174 j = pj_ai G 174 j) (q : pj_ro G m B) : pj_ro G' m B := fun c hc => by
  rw [h1, h2]
  exact q c hc
def pj_MC : pj_KT := ([(171, 16), (171, 48), (171, 3), (171, 4), (171, 26), (171, 30), (171, 18), (171, 21), (171, 5), (171, 6)], (0, 171), [173, 174, 182])
theorem ct_190 (G0 : pj_G) (hI : pj_Inv G0) (p0_ : (pj_fi G0 171 22).toInt ≤ 9) : pj_Y 17 190 [.ref 171] G0 (fun v G' => ∃ y : Int32, v = some (.int y) ∧ pj_Inv G' ∧ pj_kpt pj_MC G0 G' ∧ ((0 : Int) ≤ y.toInt ∧ y.toInt ≤ 1) ∧ (((pj_fi G0 171 22).toInt ≤ (pj_fi G' 171 22).toInt ∧ (pj_fi G' 171 22).toInt ≤ (pj_fi G0 171 22).toInt + 1) ∧ (1 ≤ y.toInt → (pj_fi G' 171 22).toInt = (pj_fi G0 171 22).toInt + 1 ∧ (pj_rd G0 (pj_fi G0 171 22).toInt (pj_fi G0 171 21).toInt → pj_rd G' (pj_fi G' 171 22).toInt (pj_fi G' 171 21).toInt)))) := by
  have c0_ : ((Int8.ofInt 58).toInt32).toInt = 58 := by decide
  have c1_ : (Int32.ofInt 0).toInt = 0 := by decide
  have c2_ : (Int32.ofInt 1).toInt = 1 := by decide
  have c3_ : (Int32.ofInt 2).toInt = 2 := by decide
  have c4_ : (Int32.ofInt 3).toInt = 3 := by decide
  have c5_ : (Int32.ofInt 4).toInt = 4 := by decide
  refine pj_Y_X (M := pj_m190) rfl rfl (Nat.le_of_ble_eq_true rfl) ?_
  have hK : pj_kpt pj_MC G0 G0 := pj_kpt_r _ _
  show pj_X _ _ G0 0 [(0, .ref 171)] [] _
  obtain ⟨y1, hy1⟩ : ∃ z : Int32, z = pj_fi G0 171 22 := ⟨_, rfl⟩
  have ey1 : (pj_fi G0 171 22).toInt = y1.toInt := by rw [hy1]
  have ry1 : (0 : Int) ≤ y1.toInt ∧ y1.toInt ≤ 10 := by rw [hy1]; exact hI.2.1 171 22 (0, 10) rfl
  obtain ⟨y2, hy2⟩ : ∃ z : Int32, z = pj_fi G0 171 23 := ⟨_, rfl⟩
  have ey2 : (pj_fi G0 171 23).toInt = y2.toInt := by rw [hy2]
  have ry2 : (-1 : Int) ≤ y2.toInt ∧ y2.toInt ≤ 7 := by rw [hy2]; exact hI.2.1 171 23 (-1, 7) rfl
  obtain ⟨y3, hy3⟩ : ∃ z : Int32, z = pj_fi G0 171 21 := ⟨_, rfl⟩
  have ey3 : (pj_fi G0 171 21).toInt = y3.toInt := by rw [hy3]
  have ry3 : (0 : Int) ≤ y3.toInt ∧ y3.toInt ≤ 8 := by rw [hy3]; exact hI.2.1 171 21 (0, 8) rfl
  refine pj_X_of (fun r h => pj_R_to (G0, 2, [(0, .ref 171)], [.ref 171, .int (Int32.ofInt 4)], 0, 0) 2 3 (fun _ => rfl) h) ?_
  refine pj_X_of (fun r h => pj_T_gi hI rfl rfl h) ?_
  show pj_X _ _ G0 5 [(0, .ref 171)] [.int (pj_fi G0 171 22), .int (Int32.ofInt 4)] _
  refine pj_X_eqi (show pj_fi G0 171 22 = y1 from hy1.symm) ?_
  refine pj_X_of (fun r h => pj_R_to (G0, 6, [(0, .ref 171)], [.int ((Int32.ofInt 4) * y1)], 0, 0) 6 2 (fun _ => rfl) h) ?_
  obtain ⟨z4, hz4⟩ : ∃ z : Int32, z = (Int32.ofInt 4) * y1 := ⟨_, rfl⟩
  refine pj_X_eqi hz4.symm ?_
  have fz4_0 : z4.toInt = 4 * y1.toInt := by rw [hz4]; exact pj_mulL (by decide) (by omega) (by omega)
  refine pj_X_of (fun r h => pj_R_to (G0, 8, [(1, .int z4), (0, .ref 171)], [.ref 171], 0, 0) 8 3 (fun _ => rfl) h) ?_
  refine pj_X_of (fun r h => pj_T_gr hI rfl rfl rfl h) ?_
  refine pj_X_of (fun r h => pj_R_to (G0, 14, [(1, .int z4), (0, .ref 171)], [.int (z4 + (Int32.ofInt 1)), .ref 181], 0, 0) 14 4 (fun _ => rfl) h) ?_
  obtain ⟨z5, hz5⟩ : ∃ z : Int32, z = z4 + (Int32.ofInt 1) := ⟨_, rfl⟩
  refine pj_X_eqi hz5.symm ?_
  have fz5_0 : z5.toInt = z4.toInt + (Int32.ofInt 1).toInt := by rw [hz5]; exact pj_addI (by have := pj_i32 z4; have := pj_i32 (Int32.ofInt 1); omega) (by have := pj_i32 z4; have := pj_i32 (Int32.ofInt 1); omega)
  refine pj_X_of (fun r h => pj_R_to (G0, 16, [(1, .int z4), (0, .ref 171)], [.ref 171, .ref 171, .int z5, .ref 181], 0, 0) 16 3 (fun _ => rfl) h) ?_
  refine pj_X_of (fun r h => pj_T_gi hI rfl rfl h) ?_
  show pj_X _ _ G0 19 [(1, .int z4), (0, .ref 171)] [.int (pj_fi G0 171 21), .ref 171, .int z5, .ref 181] _
  refine pj_X_eqi (show pj_fi G0 171 21 = y3 from hy3.symm) ?_
  have q6 : (pj_fi G0 171 22).toInt = y1.toInt := by rw [show pj_fi G0 171 22 = y1 from hy1.symm]
  have q7 : (pj_fi G0 171 23).toInt = y2.toInt := by rw [show pj_fi G0 171 23 = y2 from hy2.symm]
  have q8 : (pj_fi G0 171 21).toInt = y3.toInt := by rw [show pj_fi G0 171 21 = y3 from hy3.symm]
  refine pj_X_ca (vs := [.ref 171, .int y3]) rfl (fun _ => rfl) ⟨Nat.le_of_ble_eq_true rfl, Nat.le_of_ble_eq_true rfl, pj_T_rcv hI rfl⟩ ⟨rfl, rfl⟩ (pj_Y_up (by decide) (ct_189 G0 hI y3 ⟨by omega, by omega⟩)) ?_
  rintro _ G10 ⟨y9, rfl, iG10, jG10, ry9, ey9⟩
  have kG10 : pj_kpt pj_MC G0 G10 := pj_kpt_t hK (pj_kpt_s jG10 rfl)
  have q11 : (pj_fi G10 171 22).toInt = (pj_fi G0 171 22).toInt := by rw [jG10.1 (171, 22) (by decide)]
  have q12 : (pj_fi G10 171 21).toInt = (pj_fi G0 171 21).toInt := by rw [jG10.1 (171, 21) (by decide)]
  obtain ⟨y13, hy13⟩ : ∃ z : Int32, z = pj_fi G10 171 22 := ⟨_, rfl⟩
  have ey13 : (pj_fi G10 171 22).toInt = y13.toInt := by rw [hy13]
  have ry13 : (0 : Int) ≤ y13.toInt ∧ y13.toInt ≤ 10 := by rw [hy13]; exact iG10.2.1 171 22 (0, 10) rfl
  obtain ⟨y14, hy14⟩ : ∃ z : Int32, z = pj_fi G10 171 23 := ⟨_, rfl⟩
  have ey14 : (pj_fi G10 171 23).toInt = y14.toInt := by rw [hy14]
  have ry14 : (-1 : Int) ≤ y14.toInt ∧ y14.toInt ≤ 7 := by rw [hy14]; exact iG10.2.1 171 23 (-1, 7) rfl
  obtain ⟨y15, hy15⟩ : ∃ z : Int32, z = pj_fi G10 171 21 := ⟨_, rfl⟩
  have ey15 : (pj_fi G10 171 21).toInt = y15.toInt := by rw [hy15]
  have ry15 : (0 : Int) ≤ y15.toInt ∧ y15.toInt ≤ 8 := by rw [hy15]; exact iG10.2.1 171 21 (0, 8) rfl
  show pj_X _ _ G10 22 [(1, .int z4), (0, .ref 171)] [.int y9, .int z5, .ref 181] _
  refine pj_X_of (fun r h => pj_T_is iG10 rfl rfl (by omega) (by omega) h) ?_
  show pj_X _ _ (pj_wa G10 181 z5.toInt.toNat y9) 23 [(1, .int z4), (0, .ref 171)] [] _
  obtain ⟨G16, hG16⟩ : ∃ H, H = pj_wa G10 181 z5.toInt.toNat y9 := ⟨_, rfl⟩
  have iG16 : pj_Inv G16 := by rw [hG16]; exact pj_Inv_wa iG10 rfl (fun q hq => by cases hq; exact ⟨by show (-1 : Int) ≤ _; omega, by show _ ≤ (99 : Int); omega, by show _ ≤ (-1 : Int) ∨ (-1 : Int) ≤ _; omega⟩) (fun n hn => by cases hn)
  have kG16 : pj_kpt pj_MC G0 G16 := by rw [hG16]; exact pj_kpt_a kG10 rfl
  rw [← hG16]
  refine pj_X_of (fun r h => pj_R_to (G16, 24, [(1, .int z4), (0, .ref 171)], [.ref 171], 0, 0) 24 2 (fun _ => rfl) h) ?_
  refine pj_X_of (fun r h => pj_T_gr iG16 rfl rfl rfl h) ?_
  refine pj_X_of (fun r h => pj_R_to (G16, 29, [(1, .int z4), (0, .ref 171)], [.ref 171, .int z4, .ref 181], 0, 0) 29 3 (fun _ => rfl) h) ?_
  refine pj_X_of (fun r h => pj_T_gi iG16 rfl rfl h) ?_
  show pj_X _ _ G16 32 [(1, .int z4), (0, .ref 171)] [.int (pj_fi G16 171 23), .int z4, .ref 181] _
  refine pj_X_eqi (show pj_fi G16 171 23 = y14 from by rw [hG16, pj_fi_wa]; exact hy14.symm) ?_
  refine pj_X_of (fun r h => pj_T_is iG16 rfl rfl (by omega) (by omega) h) ?_
  show pj_X _ _ (pj_wa G16 181 z4.toInt.toNat y14) 33 [(1, .int z4), (0, .ref 171)] [] _
  obtain ⟨G17, hG17⟩ : ∃ H, H = pj_wa G16 181 z4.toInt.toNat y14 := ⟨_, rfl⟩
  have iG17 : pj_Inv G17 := by rw [hG17]; exact pj_Inv_wa iG16 rfl (fun q hq => by cases hq; exact ⟨by show (-1 : Int) ≤ _; omega, by show _ ≤ (99 : Int); omega, by show _ ≤ (-1 : Int) ∨ (-1 : Int) ≤ _; omega⟩) (fun n hn => by cases hn)
  have kG17 : pj_kpt pj_MC G0 G17 := by rw [hG17]; exact pj_kpt_a kG16 rfl
  rw [← hG17]
  refine pj_X_of (fun r h => pj_R_to (G17, 34, [(1, .int z4), (0, .ref 171)], [.ref 171], 0, 0) 34 2 (fun _ => rfl) h) ?_
  refine pj_X_of (fun r h => pj_T_gr iG17 rfl rfl rfl h) ?_
  refine pj_X_of (fun r h => pj_R_to (G17, 40, [(1, .int z4), (0, .ref 171)], [.int (z4 + (Int32.ofInt 1)), .ref 181], 0, 0) 40 4 (fun _ => rfl) h) ?_
  obtain ⟨z18, hz18⟩ : ∃ z : Int32, z = z4 + (Int32.ofInt 1) := ⟨_, rfl⟩
  refine pj_X_eqi hz18.symm ?_
  have fz18_0 : z18.toInt = z4.toInt + (Int32.ofInt 1).toInt := by rw [hz18]; exact pj_addI (by have := pj_i32 z4; have := pj_i32 (Int32.ofInt 1); omega) (by have := pj_i32 z4; have := pj_i32 (Int32.ofInt 1); omega)
  refine pj_X_of (fun r h => pj_T_il iG17 rfl rfl (by omega) (by omega) h) ?_
  show pj_X _ _ G17 41 [(1, .int z4), (0, .ref 171)] [.int (pj_ai G17 181 z18.toInt.toNat)] _
  obtain ⟨z19, hz19⟩ : ∃ z : Int32, z = pj_ai G17 181 z18.toInt.toNat := ⟨_, rfl⟩
  refine pj_X_eqi hz19.symm ?_
  have ez19 : (pj_ai G17 181 z18.toInt.toNat).toInt = z19.toInt := by rw [hz19]
  have fz19_0 : (-1 : Int) ≤ z19.toInt ∧ z19.toInt ≤ 99 ∧ (z19.toInt ≤ -1 ∨ -1 ≤ z19.toInt) := by rw [hz19]; exact iG17.2.2.1 181 (40, -1, 99, -1, -1) rfl _ (by show _ < 40; omega)
  have x20 : z19.toInt = y9.toInt := by rw [hz19, hG17, pj_ai_wa_nj _ _ _ _ _ (by omega), show z18.toInt.toNat = z5.toInt.toNat by omega, hG16, pj_ai_wa_eq iG10.1 rfl]
  cases b21 : pj_c1 .ge z19 0 with
  | true =>
    have ub21 := pj_u0_geT b21
    refine pj_X_of (fun r h => pj_R_ifT 46 rfl rfl b21 h) ?_
    refine pj_X_of (fun r h => pj_R_to (G17, 47, [(1, .int z4), (0, .ref 171)], [.ref 171], 0, 0) 47 2 (fun _ => rfl) h) ?_
    refine pj_X_of (fun r h => pj_T_gr iG17 rfl rfl rfl h) ?_
    refine pj_X_of (fun r h => pj_R_to (G17, 53, [(1, .int z4), (0, .ref 171)], [.int (z4 + (Int32.ofInt 2)), .ref 181], 0, 0) 53 4 (fun _ => rfl) h) ?_
    obtain ⟨z22, hz22⟩ : ∃ z : Int32, z = z4 + (Int32.ofInt 2) := ⟨_, rfl⟩
    refine pj_X_eqi hz22.symm ?_
    have fz22_0 : z22.toInt = z4.toInt + (Int32.ofInt 2).toInt := by rw [hz22]; exact pj_addI (by have := pj_i32 z4; have := pj_i32 (Int32.ofInt 2); omega) (by have := pj_i32 z4; have := pj_i32 (Int32.ofInt 2); omega)
    refine pj_X_of (fun r h => pj_R_to (G17, 55, [(1, .int z4), (0, .ref 171)], [.int (Int32.ofInt 2), .ref 171, .int z22, .ref 181], 0, 0) 55 3 (fun _ => rfl) h) ?_
    have q23 : (pj_fi G17 171 22).toInt = y13.toInt := by rw [show pj_fi G17 171 22 = y13 from by rw [hG17, pj_fi_wa]; exact (by rw [hG16, pj_fi_wa]; exact hy13.symm)]
    have q24 : (pj_fi G17 171 23).toInt = y14.toInt := by rw [show pj_fi G17 171 23 = y14 from by rw [hG17, pj_fi_wa]; exact (by rw [hG16, pj_fi_wa]; exact hy14.symm)]
    have q25 : (pj_fi G17 171 21).toInt = y15.toInt := by rw [show pj_fi G17 171 21 = y15 from by rw [hG17, pj_fi_wa]; exact (by rw [hG16, pj_fi_wa]; exact hy15.symm)]
    refine pj_X_ca (vs := [.ref 171, .int (Int32.ofInt 2)]) rfl (fun _ => rfl) ⟨Nat.le_of_ble_eq_true rfl, Nat.le_of_ble_eq_true rfl, pj_T_rcv iG17 rfl⟩ ⟨rfl, rfl⟩ (pj_Y_up (by decide) (ct_186 G17 iG17 (Int32.ofInt 2) ⟨by omega, by omega⟩)) ?_
    rintro _ G27 ⟨y26, rfl, iG27, jG27, ry26, ey26⟩
    have kG27 : pj_kpt pj_MC G0 G27 := pj_kpt_t kG17 (pj_kpt_s jG27 rfl)
    have q28 : (pj_fi G27 171 22).toInt = (pj_fi G17 171 22).toInt := by rw [jG27.1 (171, 22) (by decide)]
    have q29 : (pj_fi G27 171 23).toInt = (pj_fi G17 171 23).toInt := by rw [jG27.1 (171, 23) (by decide)]
    have q30 : (pj_fi G27 171 21).toInt = (pj_fi G17 171 21).toInt := by rw [jG27.1 (171, 21) (by decide)]
    obtain ⟨y31, hy31⟩ : ∃ z : Int32, z = pj_fi G27 171 22 := ⟨_, rfl⟩
    have ey31 : (pj_fi G27 171 22).toInt = y31.toInt := by rw [hy31]
    have ry31 : (0 : Int) ≤ y31.toInt ∧ y31.toInt ≤ 10 := by rw [hy31]; exact iG27.2.1 171 22 (0, 10) rfl
    obtain ⟨y32, hy32⟩ : ∃ z : Int32, z = pj_fi G27 171 23 := ⟨_, rfl⟩
    have ey32 : (pj_fi G27 171 23).toInt = y32.toInt := by rw [hy32]
    have ry32 : (-1 : Int) ≤ y32.toInt ∧ y32.toInt ≤ 7 := by rw [hy32]; exact iG27.2.1 171 23 (-1, 7) rfl
    obtain ⟨y33, hy33⟩ : ∃ z : Int32, z = pj_fi G27 171 21 := ⟨_, rfl⟩
    have ey33 : (pj_fi G27 171 21).toInt = y33.toInt := by rw [hy33]
    have ry33 : (0 : Int) ≤ y33.toInt ∧ y33.toInt ≤ 8 := by rw [hy33]; exact iG27.2.1 171 21 (0, 8) rfl
    show pj_X _ _ G27 58 [(1, .int z4), (0, .ref 171)] [.int y26, .int z22, .ref 181] _
    refine pj_X_of (fun r h => pj_T_is iG27 rfl rfl (by omega) (by omega) h) ?_
    show pj_X _ _ (pj_wa G27 181 z22.toInt.toNat y26) 59 [(1, .int z4), (0, .ref 171)] [] _
    obtain ⟨G34, hG34⟩ : ∃ H, H = pj_wa G27 181 z22.toInt.toNat y26 := ⟨_, rfl⟩
    have iG34 : pj_Inv G34 := by rw [hG34]; exact pj_Inv_wa iG27 rfl (fun q hq => by cases hq; exact ⟨by show (-1 : Int) ≤ _; omega, by show _ ≤ (99 : Int); omega, by show _ ≤ (-1 : Int) ∨ (-1 : Int) ≤ _; omega⟩) (fun n hn => by cases hn)
    have kG34 : pj_kpt pj_MC G0 G34 := by rw [hG34]; exact pj_kpt_a kG27 rfl
    rw [← hG34]
    refine pj_X_of (fun r h => pj_R_to (G34, 60, [(1, .int z4), (0, .ref 171)], [.ref 171], 0, 0) 60 2 (fun _ => rfl) h) ?_
    refine pj_X_of (fun r h => pj_T_gr iG34 rfl rfl rfl h) ?_
    refine pj_X_of (fun r h => pj_R_to (G34, 66, [(1, .int z4), (0, .ref 171)], [.int (z4 + (Int32.ofInt 2)), .ref 181], 0, 0) 66 4 (fun _ => rfl) h) ?_
    obtain ⟨z35, hz35⟩ : ∃ z : Int32, z = z4 + (Int32.ofInt 2) := ⟨_, rfl⟩
    refine pj_X_eqi hz35.symm ?_
    have fz35_0 : z35.toInt = z4.toInt + (Int32.ofInt 2).toInt := by rw [hz35]; exact pj_addI (by have := pj_i32 z4; have := pj_i32 (Int32.ofInt 2); omega) (by have := pj_i32 z4; have := pj_i32 (Int32.ofInt 2); omega)
    refine pj_X_of (fun r h => pj_T_il iG34 rfl rfl (by omega) (by omega) h) ?_
    show pj_X _ _ G34 67 [(1, .int z4), (0, .ref 171)] [.int (pj_ai G34 181 z35.toInt.toNat)] _
    obtain ⟨z36, hz36⟩ : ∃ z : Int32, z = pj_ai G34 181 z35.toInt.toNat := ⟨_, rfl⟩
    refine pj_X_eqi hz36.symm ?_
    have ez36 : (pj_ai G34 181 z35.toInt.toNat).toInt = z36.toInt := by rw [hz36]
    have fz36_0 : (-1 : Int) ≤ z36.toInt ∧ z36.toInt ≤ 99 ∧ (z36.toInt ≤ -1 ∨ -1 ≤ z36.toInt) := by rw [hz36]; exact iG34.2.2.1 181 (40, -1, 99, -1, -1) rfl _ (by show _ < 40; omega)
    have x37 : z36.toInt = y26.toInt := by rw [hz36, show z35.toInt.toNat = z22.toInt.toNat by omega, hG34, pj_ai_wa_eq iG27.1 rfl]
    cases b38 : pj_c1 .lt z36 0 with
    | true =>
      have ub38 := pj_u0_ltT b38
      refine pj_X_of (fun r h => pj_R_ifT 79 rfl rfl b38 h) ?_
      refine pj_X_of (fun r h => pj_R_to (G34, 80, [(1, .int z4), (0, .ref 171)], [.int (Int32.ofInt 0)], 0, 0) 80 2 (fun _ => rfl) h) ?_
      have q39 : (pj_fi G34 171 22).toInt = y31.toInt := by rw [show pj_fi G34 171 22 = y31 from by rw [hG34, pj_fi_wa]; exact hy31.symm]
      have q40 : (pj_fi G34 171 23).toInt = y32.toInt := by rw [show pj_fi G34 171 23 = y32 from by rw [hG34, pj_fi_wa]; exact hy32.symm]
      have q41 : (pj_fi G34 171 21).toInt = y33.toInt := by rw [show pj_fi G34 171 21 = y33 from by rw [hG34, pj_fi_wa]; exact hy33.symm]
      exact pj_X_rt rfl rfl ⟨_, rfl, iG34, kG34, ⟨by omega, by omega⟩, ⟨by omega, fun q => absurd q (by omega)⟩⟩
    | false =>
      have ub38 := pj_u0_ltF b38
      refine pj_X_of (fun r h => pj_R_ifF rfl b38 h) ?_
      refine pj_X_of (fun r h => pj_R_to (G34, 73, [(1, .int z4), (0, .ref 171)], [.int ((Int8.ofInt 58).toInt32), .ref 171], 0, 0) 73 3 (fun _ => rfl) h) ?_
      have q42 : (pj_fi G34 171 22).toInt = y31.toInt := by rw [show pj_fi G34 171 22 = y31 from by rw [hG34, pj_fi_wa]; exact hy31.symm]
      have q43 : (pj_fi G34 171 23).toInt = y32.toInt := by rw [show pj_fi G34 171 23 = y32 from by rw [hG34, pj_fi_wa]; exact hy32.symm]
      have q44 : (pj_fi G34 171 21).toInt = y33.toInt := by rw [show pj_fi G34 171 21 = y33 from by rw [hG34, pj_fi_wa]; exact hy33.symm]
      refine pj_X_ca (vs := [.ref 171, .int ((Int8.ofInt 58).toInt32)]) rfl (fun _ => rfl) ⟨Nat.le_of_ble_eq_true rfl, Nat.le_of_ble_eq_true rfl, pj_T_rcv iG34 rfl⟩ ⟨rfl, rfl⟩ (pj_Y_up (by decide) (ct_182 G34 iG34 ((Int8.ofInt 58).toInt32) ⟨by omega, by omega⟩)) ?_
      rintro _ G46 ⟨y45, rfl, iG46, jG46, ry45, ey45⟩
      have kG46 : pj_kpt pj_MC G0 G46 := pj_kpt_t kG34 (pj_kpt_s jG46 rfl)
      have q47 : (pj_fi G46 171 22).toInt = (pj_fi G34 171 22).toInt := by rw [jG46.1 (171, 22) (by decide)]
      have q48 : (pj_fi G46 171 23).toInt = (pj_fi G34 171 23).toInt := by rw [jG46.1 (171, 23) (by decide)]
      have q49 : (pj_fi G46 171 21).toInt = (pj_fi G34 171 21).toInt := by rw [jG46.1 (171, 21) (by decide)]
      obtain ⟨y50, hy50⟩ : ∃ z : Int32, z = pj_fi G46 171 22 := ⟨_, rfl⟩
      have ey50 : (pj_fi G46 171 22).toInt = y50.toInt := by rw [hy50]
      have ry50 : (0 : Int) ≤ y50.toInt ∧ y50.toInt ≤ 10 := by rw [hy50]; exact iG46.2.1 171 22 (0, 10) rfl
      obtain ⟨y51, hy51⟩ : ∃ z : Int32, z = pj_fi G46 171 23 := ⟨_, rfl⟩
      have ey51 : (pj_fi G46 171 23).toInt = y51.toInt := by rw [hy51]
      have ry51 : (-1 : Int) ≤ y51.toInt ∧ y51.toInt ≤ 7 := by rw [hy51]; exact iG46.2.1 171 23 (-1, 7) rfl
      obtain ⟨y52, hy52⟩ : ∃ z : Int32, z = pj_fi G46 171 21 := ⟨_, rfl⟩
      have ey52 : (pj_fi G46 171 21).toInt = y52.toInt := by rw [hy52]
      have ry52 : (0 : Int) ≤ y52.toInt ∧ y52.toInt ≤ 8 := by rw [hy52]; exact iG46.2.1 171 21 (0, 8) rfl
      show pj_X _ _ G46 76 [(1, .int z4), (0, .ref 171)] [.int y45] _
      cases b53 : pj_c1 .ne y45 0 with
      | true =>
        have ub53 := pj_u0_neT b53
        refine pj_X_of (fun r h => pj_R_ifT 81 rfl rfl b53 h) ?_
        refine pj_X_of (fun r h => pj_R_to (G46, 82, [(1, .int z4), (0, .ref 171)], [.ref 171], 0, 0) 82 2 (fun _ => rfl) h) ?_
        refine pj_X_of (fun r h => pj_T_gr iG46 rfl rfl rfl h) ?_
        refine pj_X_of (fun r h => pj_R_to (G46, 88, [(1, .int z4), (0, .ref 171)], [.int (z4 + (Int32.ofInt 3)), .ref 181], 0, 0) 88 4 (fun _ => rfl) h) ?_
        obtain ⟨z54, hz54⟩ : ∃ z : Int32, z = z4 + (Int32.ofInt 3) := ⟨_, rfl⟩
        refine pj_X_eqi hz54.symm ?_
        have fz54_0 : z54.toInt = z4.toInt + (Int32.ofInt 3).toInt := by rw [hz54]; exact pj_addI (by have := pj_i32 z4; have := pj_i32 (Int32.ofInt 3); omega) (by have := pj_i32 z4; have := pj_i32 (Int32.ofInt 3); omega)
        refine pj_X_of (fun r h => pj_R_to (G46, 92, [(1, .int z4), (0, .ref 171)], [.retAddr 9, .ref 171, .int (Int32.ofInt 1), .int z54, .ref 181], 0, 0) 92 4 (fun _ => rfl) h) ?_
        have q55 : (pj_fi G46 171 22).toInt = y50.toInt := by rw [show pj_fi G46 171 22 = y50 from hy50.symm]
        have q56 : (pj_fi G46 171 23).toInt = y51.toInt := by rw [show pj_fi G46 171 23 = y51 from hy51.symm]
        have q57 : (pj_fi G46 171 21).toInt = y52.toInt := by rw [show pj_fi G46 171 21 = y52 from hy52.symm]
        refine pj_X_ca (vs := [.ref 171, .retAddr 9]) rfl (fun _ => rfl) ⟨Nat.le_of_ble_eq_true rfl, Nat.le_of_ble_eq_true rfl, pj_T_rcv iG46 rfl⟩ ⟨rfl, rfl⟩ (pj_Y_up (by decide) (ct_185_s9 G46 iG46)) ?_
        rintro _ G59 ⟨y58, rfl, iG59, jG59, ry58, ey58⟩
        have kG59 : pj_kpt pj_MC G0 G59 := pj_kpt_t kG46 (pj_kpt_s jG59 rfl)
        have q60 : (pj_fi G59 171 22).toInt = (pj_fi G46 171 22).toInt := by rw [jG59.1 (171, 22) (by decide)]
        have q61 : (pj_fi G59 171 23).toInt = (pj_fi G46 171 23).toInt := by rw [jG59.1 (171, 23) (by decide)]
        have q62 : (pj_fi G59 171 21).toInt = (pj_fi G46 171 21).toInt := by rw [jG59.1 (171, 21) (by decide)]
        obtain ⟨y63, hy63⟩ : ∃ z : Int32, z = pj_fi G59 171 22 := ⟨_, rfl⟩
        have ey63 : (pj_fi G59 171 22).toInt = y63.toInt := by rw [hy63]
        have ry63 : (0 : Int) ≤ y63.toInt ∧ y63.toInt ≤ 10 := by rw [hy63]; exact iG59.2.1 171 22 (0, 10) rfl
        obtain ⟨y64, hy64⟩ : ∃ z : Int32, z = pj_fi G59 171 23 := ⟨_, rfl⟩
        have ey64 : (pj_fi G59 171 23).toInt = y64.toInt := by rw [hy64]
        have ry64 : (-1 : Int) ≤ y64.toInt ∧ y64.toInt ≤ 7 := by rw [hy64]; exact iG59.2.1 171 23 (-1, 7) rfl
        obtain ⟨y65, hy65⟩ : ∃ z : Int32, z = pj_fi G59 171 21 := ⟨_, rfl⟩
        have ey65 : (pj_fi G59 171 21).toInt = y65.toInt := by rw [hy65]
        have ry65 : (0 : Int) ≤ y65.toInt ∧ y65.toInt ≤ 8 := by rw [hy65]; exact iG59.2.1 171 21 (0, 8) rfl
        show pj_X _ _ G59 95 [(1, .int z4), (0, .ref 171)] [.int y58, .int (Int32.ofInt 1), .int z54, .ref 181] _
        refine pj_X_of (fun r h => pj_R_to (G59, 96, [(1, .int z4), (0, .ref 171)], [.int ((Int32.ofInt 1) + y58), .int z54, .ref 181], 0, 0) 96 2 (fun _ => rfl) h) ?_
        obtain ⟨z66, hz66⟩ : ∃ z : Int32, z = (Int32.ofInt 1) + y58 := ⟨_, rfl⟩
        refine pj_X_eqi hz66.symm ?_
        have fz66_0 : z66.toInt = (Int32.ofInt 1).toInt + y58.toInt := by rw [hz66]; exact pj_addI (by have := pj_i32 (Int32.ofInt 1); have := pj_i32 y58; omega) (by have := pj_i32 (Int32.ofInt 1); have := pj_i32 y58; omega)
        refine pj_X_of (fun r h => pj_T_is iG59 rfl rfl (by omega) (by omega) h) ?_
        show pj_X _ _ (pj_wa G59 181 z54.toInt.toNat z66) 97 [(1, .int z4), (0, .ref 171)] [] _
        obtain ⟨G67, hG67⟩ : ∃ H, H = pj_wa G59 181 z54.toInt.toNat z66 := ⟨_, rfl⟩
        have iG67 : pj_Inv G67 := by rw [hG67]; exact pj_Inv_wa iG59 rfl (fun q hq => by cases hq; exact ⟨by show (-1 : Int) ≤ _; omega, by show _ ≤ (99 : Int); omega, by show _ ≤ (-1 : Int) ∨ (-1 : Int) ≤ _; omega⟩) (fun n hn => by cases hn)
        have kG67 : pj_kpt pj_MC G0 G67 := by rw [hG67]; exact pj_kpt_a kG59 rfl
        rw [← hG67]
        refine pj_X_of (fun r h => pj_R_to (G67, 99, [(1, .int z4), (0, .ref 171)], [.ref 171, .ref 171], 0, 0) 99 3 (fun _ => rfl) h) ?_
        refine pj_X_of (fun r h => pj_T_gi iG67 rfl rfl h) ?_
        show pj_X _ _ G67 102 [(1, .int z4), (0, .ref 171)] [.int (pj_fi G67 171 22), .ref 171] _
        refine pj_X_eqi (show pj_fi G67 171 22 = y63 from by rw [hG67, pj_fi_wa]; exact hy63.symm) ?_
        refine pj_X_of (fun r h => pj_R_to (G67, 104, [(1, .int z4), (0, .ref 171)], [.int (y63 + (Int32.ofInt 1)), .ref 171], 0, 0) 104 3 (fun _ => rfl) h) ?_
        obtain ⟨z68, hz68⟩ : ∃ z : Int32, z = y63 + (Int32.ofInt 1) := ⟨_, rfl⟩
        refine pj_X_eqi hz68.symm ?_
        have fz68_0 : z68.toInt = y63.toInt + (Int32.ofInt 1).toInt := by rw [hz68]; exact pj_addI (by have := pj_i32 y63; have := pj_i32 (Int32.ofInt 1); omega) (by have := pj_i32 y63; have := pj_i32 (Int32.ofInt 1); omega)
        refine pj_X_of (fun r h => pj_T_pf iG67 rfl rfl rfl h) ?_
        show pj_X _ _ (pj_wv G67 171 22 (.int z68)) 107 [(1, .int z4), (0, .ref 171)] [] _
        obtain ⟨G69, hG69⟩ : ∃ H, H = pj_wv G67 171 22 (.int z68) := ⟨_, rfl⟩
        have iG69 : pj_Inv G69 := by rw [hG69]; exact pj_Inv_wi iG67 (ci := 12) rfl (fun q hq => by cases hq; exact ⟨by show (0 : Int) ≤ _; omega, by show _ ≤ (10 : Int); omega⟩)
        have kG69 : pj_kpt pj_MC G0 G69 := by rw [hG69]; exact pj_kpt_v kG67 rfl
        rw [← hG69]
        refine pj_X_of (fun r h => pj_R_to (G69, 108, [(1, .int z4), (0, .ref 171)], [.ref 171], 0, 0) 108 2 (fun _ => rfl) h) ?_
        refine pj_X_of (fun r h => pj_T_gr iG69 rfl rfl rfl h) ?_
        refine pj_X_of (fun r h => pj_R_to (G69, 114, [(1, .int z4), (0, .ref 171)], [.int (z4 + (Int32.ofInt 3)), .ref 181], 0, 0) 114 4 (fun _ => rfl) h) ?_
        obtain ⟨z70, hz70⟩ : ∃ z : Int32, z = z4 + (Int32.ofInt 3) := ⟨_, rfl⟩
        refine pj_X_eqi hz70.symm ?_
        have fz70_0 : z70.toInt = z4.toInt + (Int32.ofInt 3).toInt := by rw [hz70]; exact pj_addI (by have := pj_i32 z4; have := pj_i32 (Int32.ofInt 3); omega) (by have := pj_i32 z4; have := pj_i32 (Int32.ofInt 3); omega)
        refine pj_X_of (fun r h => pj_T_il iG69 rfl rfl (by omega) (by omega) h) ?_
        show pj_X _ _ G69 115 [(1, .int z4), (0, .ref 171)] [.int (pj_ai G69 181 z70.toInt.toNat)] _
        obtain ⟨z71, hz71⟩ : ∃ z : Int32, z = pj_ai G69 181 z70.toInt.toNat := ⟨_, rfl⟩
        refine pj_X_eqi hz71.symm ?_
        have ez71 : (pj_ai G69 181 z70.toInt.toNat).toInt = z71.toInt := by rw [hz71]
        have fz71_0 : (-1 : Int) ≤ z71.toInt ∧ z71.toInt ≤ 99 ∧ (z71.toInt ≤ -1 ∨ -1 ≤ z71.toInt) := by rw [hz71]; exact iG69.2.2.1 181 (40, -1, 99, -1, -1) rfl _ (by show _ < 40; omega)
        have x72 : z71.toInt = z66.toInt := by rw [hz71, hG69, pj_ai_wv, show z70.toInt.toNat = z54.toInt.toNat by omega, hG67, pj_ai_wa_eq iG59.1 rfl]
        cases b73 : pj_c1 .le z71 0 with
        | true =>
          have ub73 := pj_u0_leT b73
          refine pj_X_of (fun r h => pj_R_ifT 122 rfl rfl b73 h) ?_
          refine pj_X_of (fun r h => pj_R_to (G69, 123, [(1, .int z4), (0, .ref 171)], [.int (Int32.ofInt 0)], 0, 0) 123 2 (fun _ => rfl) h) ?_
          have q74 : (pj_fi G69 171 22).toInt = z68.toInt := by rw [show pj_fi G69 171 22 = z68 from by rw [hG69]; exact pj_fi_wi iG67.1 (ci := 12) rfl _]
          have q75 : (pj_fi G69 171 23).toInt = y64.toInt := by rw [show pj_fi G69 171 23 = y64 from by rw [hG69, pj_fi_wv_ne _ _ _ _ _ _ (by decide)]; exact (by rw [hG67, pj_fi_wa]; exact hy64.symm)]
          have q76 : (pj_fi G69 171 21).toInt = y65.toInt := by rw [show pj_fi G69 171 21 = y65 from by rw [hG69, pj_fi_wv_ne _ _ _ _ _ _ (by decide)]; exact (by rw [hG67, pj_fi_wa]; exact hy65.symm)]
          exact pj_X_rt rfl rfl ⟨_, rfl, iG69, kG69, ⟨by omega, by omega⟩, ⟨by omega, fun q => absurd q (by omega)⟩⟩
        | false =>
          have ub73 := pj_u0_leF b73
          refine pj_X_of (fun r h => pj_R_ifF rfl b73 h) ?_
          refine pj_X_of (fun r h => pj_R_to (G69, 123, [(1, .int z4), (0, .ref 171)], [.int (Int32.ofInt 1)], 0, 0) 123 3 (fun _ => rfl) h) ?_
          have q77 : (pj_fi G69 171 22).toInt = z68.toInt := by rw [show pj_fi G69 171 22 = z68 from by rw [hG69]; exact pj_fi_wi iG67.1 (ci := 12) rfl _]
          have q78 : (pj_fi G69 171 23).toInt = y64.toInt := by rw [show pj_fi G69 171 23 = y64 from by rw [hG69, pj_fi_wv_ne _ _ _ _ _ _ (by decide)]; exact (by rw [hG67, pj_fi_wa]; exact hy64.symm)]
          have q79 : (pj_fi G69 171 21).toInt = y65.toInt := by rw [show pj_fi G69 171 21 = y65 from by rw [hG69, pj_fi_wv_ne _ _ _ _ _ _ (by decide)]; exact (by rw [hG67, pj_fi_wa]; exact hy65.symm)]
          have v80 : (pj_ai G69 181 (4 * y1.toInt.toNat)).toInt = y14.toInt := by rw [show 4 * y1.toInt.toNat = z4.toInt.toNat by omega, hG69, pj_ai_wv, hG67, pj_ai_wa_nj _ _ _ _ _ (by omega), jG59.2.2 181 (by decide), jG46.2.2 181 (by decide), hG34, pj_ai_wa_nj _ _ _ _ _ (by omega), jG27.2.2 181 (by decide), hG17, pj_ai_wa_eq iG16.1 rfl]
          have v81 : (pj_ai G69 181 (4 * y1.toInt.toNat + 1)).toInt = y9.toInt := by rw [show 4 * y1.toInt.toNat + 1 = z5.toInt.toNat by omega, hG69, pj_ai_wv, hG67, pj_ai_wa_nj _ _ _ _ _ (by omega), jG59.2.2 181 (by decide), jG46.2.2 181 (by decide), hG34, pj_ai_wa_nj _ _ _ _ _ (by omega), jG27.2.2 181 (by decide), hG17, pj_ai_wa_nj _ _ _ _ _ (by omega), hG16, pj_ai_wa_eq iG10.1 rfl]
          have v82 : (pj_ai G69 181 (4 * y1.toInt.toNat + 2)).toInt = y26.toInt := by rw [show 4 * y1.toInt.toNat + 2 = z22.toInt.toNat by omega, hG69, pj_ai_wv, hG67, pj_ai_wa_nj _ _ _ _ _ (by omega), jG59.2.2 181 (by decide), jG46.2.2 181 (by decide), hG34, pj_ai_wa_eq iG27.1 rfl]
          have hold : ∀ j : Nat, j < 4 * y1.toInt.toNat → pj_ai G69 181 j = pj_ai G0 181 j := fun j hj => by rw [hG69, pj_ai_wv, hG67, pj_ai_wa_nj _ _ _ _ _ (by omega), jG59.2.2 181 (by decide), jG46.2.2 181 (by decide), hG34, pj_ai_wa_nj _ _ _ _ _ (by omega), jG27.2.2 181 (by decide), hG17, pj_ai_wa_nj _ _ _ _ _ (by omega), hG16, pj_ai_wa_nj _ _ _ _ _ (by omega), jG10.2.2 181 (by decide)]
          have eb : pj_fi G69 171 21 = pj_fi G0 171 21 := kG69.1 (171, 21) (by decide)
          exact pj_X_rt rfl rfl ⟨_, rfl, iG69, kG69, ⟨by omega, by omega⟩, ⟨by omega, fun _ => ⟨by omega, fun q => by rw [eb, show (pj_fi G69 171 22).toInt = (pj_fi G0 171 22).toInt + 1 by omega]; exact pj_rd_s q y1.toInt.toNat (by omega) hold (by omega) (by omega) (by omega)⟩⟩⟩
      | false =>
        have ub53 := pj_u0_neF b53
        refine pj_X_of (fun r h => pj_R_ifF rfl b53 h) ?_
        refine pj_X_of (fun r h => pj_R_to (G46, 80, [(1, .int z4), (0, .ref 171)], [.int (Int32.ofInt 0)], 0, 0) 80 2 (fun _ => rfl) h) ?_
        have q83 : (pj_fi G46 171 22).toInt = y50.toInt := by rw [show pj_fi G46 171 22 = y50 from hy50.symm]
        have q84 : (pj_fi G46 171 23).toInt = y51.toInt := by rw [show pj_fi G46 171 23 = y51 from hy51.symm]
        have q85 : (pj_fi G46 171 21).toInt = y52.toInt := by rw [show pj_fi G46 171 21 = y52 from hy52.symm]
        exact pj_X_rt rfl rfl ⟨_, rfl, iG46, kG46, ⟨by omega, by omega⟩, ⟨by omega, fun q => absurd q (by omega)⟩⟩
  | false =>
    have ub21 := pj_u0_geF b21
    refine pj_X_of (fun r h => pj_R_ifF rfl b21 h) ?_
    refine pj_X_of (fun r h => pj_R_to (G17, 45, [(1, .int z4), (0, .ref 171)], [.int (Int32.ofInt 0)], 0, 0) 45 2 (fun _ => rfl) h) ?_
    have q86 : (pj_fi G17 171 22).toInt = y13.toInt := by rw [show pj_fi G17 171 22 = y13 from by rw [hG17, pj_fi_wa]; exact (by rw [hG16, pj_fi_wa]; exact hy13.symm)]
    have q87 : (pj_fi G17 171 23).toInt = y14.toInt := by rw [show pj_fi G17 171 23 = y14 from by rw [hG17, pj_fi_wa]; exact (by rw [hG16, pj_fi_wa]; exact hy14.symm)]
    have q88 : (pj_fi G17 171 21).toInt = y15.toInt := by rw [show pj_fi G17 171 21 = y15 from by rw [hG17, pj_fi_wa]; exact (by rw [hG16, pj_fi_wa]; exact hy15.symm)]
    exact pj_X_rt rfl rfl ⟨_, rfl, iG17, kG17, ⟨by omega, by omega⟩, ⟨by omega, fun q => absurd q (by omega)⟩⟩
theorem ct_192 (G0 : pj_G) (hI : pj_Inv G0) : pj_Y 1 192 [.ref 171] G0 (fun v G' => v = none ∧ pj_Inv G' ∧ pj_kpt pj_M3 G0 G' ∧ ((pj_fi G' 171 30).toInt ≤ 15)) := by
  have c0_ : (Int32.ofInt 0).toInt = 0 := by decide
  have c1_ : (Int32.ofInt 1).toInt = 1 := by decide
  refine pj_Y_X (M := pj_m192) rfl rfl (Nat.le_of_ble_eq_true rfl) ?_
  have hK : pj_kpt pj_M3 G0 G0 := pj_kpt_r _ _
  show pj_X _ _ G0 0 [(0, .ref 171)] [] _
  obtain ⟨y1, hy1⟩ : ∃ z : Int32, z = pj_fi G0 171 30 := ⟨_, rfl⟩
  have ey1 : (pj_fi G0 171 30).toInt = y1.toInt := by rw [hy1]
  have ry1 : (0 : Int) ≤ y1.toInt ∧ y1.toInt ≤ 16 := by rw [hy1]; exact hI.2.1 171 30 (0, 16) rfl
  refine pj_X_of (fun r h => pj_R_to (G0, 2, [(0, .ref 171)], [.int (Int32.ofInt 0), .ref 171], 0, 0) 2 3 (fun _ => rfl) h) ?_
  refine pj_X_of (fun r h => pj_T_pf hI rfl rfl rfl h) ?_
  show pj_X _ _ (pj_wv G0 171 30 (.int (Int32.ofInt 0))) 5 [(0, .ref 171)] [] _
  obtain ⟨G2, hG2⟩ : ∃ H, H = pj_wv G0 171 30 (.int (Int32.ofInt 0)) := ⟨_, rfl⟩
  have iG2 : pj_Inv G2 := by rw [hG2]; exact pj_Inv_wi hI (ci := 12) rfl (fun q hq => by cases hq; exact ⟨by show (0 : Int) ≤ _; omega, by show _ ≤ (16 : Int); omega⟩)
  have kG2 : pj_kpt pj_M3 G0 G2 := by rw [hG2]; exact pj_kpt_v hK rfl
  rw [← hG2]
  refine pj_X_of (fun r h => pj_R_to (G2, 7, [(0, .ref 171)], [.ref 171, .ref 171], 0, 0) 7 3 (fun _ => rfl) h) ?_
  refine pj_X_of (fun r h => pj_T_gi iG2 rfl rfl h) ?_
  show pj_X _ _ G2 10 [(0, .ref 171)] [.int (pj_fi G2 171 7), .ref 171] _
  obtain ⟨y3, hy3⟩ : ∃ z : Int32, z = pj_fi G2 171 7 := ⟨_, rfl⟩
  refine pj_X_eqi hy3.symm ?_
  have ey3 : (pj_fi G2 171 7).toInt = y3.toInt := by rw [hy3]
  refine pj_X_of (fun r h => pj_R_to (G2, 12, [(0, .ref 171)], [.int (y3 + (Int32.ofInt 1)), .ref 171], 0, 0) 12 3 (fun _ => rfl) h) ?_
  obtain ⟨z4, hz4⟩ : ∃ z : Int32, z = y3 + (Int32.ofInt 1) := ⟨_, rfl⟩
  refine pj_X_eqi hz4.symm ?_
  refine pj_X_of (fun r h => pj_T_pf iG2 rfl rfl rfl h) ?_
  show pj_X _ _ (pj_wv G2 171 7 (.int z4)) 15 [(0, .ref 171)] [] _
  obtain ⟨G5, hG5⟩ : ∃ H, H = pj_wv G2 171 7 (.int z4) := ⟨_, rfl⟩
  have iG5 : pj_Inv G5 := by rw [hG5]; exact pj_Inv_wi iG2 (ci := 12) rfl (fun q hq => by cases hq)
  have kG5 : pj_kpt pj_M3 G0 G5 := by rw [hG5]; exact pj_kpt_v kG2 rfl
  rw [← hG5]
  have q6 : (pj_fi G5 171 30).toInt = (Int32.ofInt 0).toInt := by rw [show pj_fi G5 171 30 = Int32.ofInt 0 from by rw [hG5, pj_fi_wv_ne _ _ _ _ _ _ (by decide)]; exact (by rw [hG2]; exact pj_fi_wi hI.1 (ci := 12) rfl _)]
  exact pj_X_rt rfl rfl ⟨rfl, iG5, kG5, by omega⟩
def pj_M5 : pj_KT := ([(171, 48), (171, 26)], (0, 171), [182])
theorem lp_ct_191 (G0 : pj_G) (hI0 : pj_Inv G0) (p0_ : pj_RI G0) (p1_ : (pj_fi G0 171 30).toInt ≤ 15) : ∀ mn : Nat, (∀ (G : pj_G) (hI : pj_Inv G) (hK : pj_kpt pj_M5 G0 G) (v1 : Int32) (v2 : Int32), ((0 : Int) ≤ v1.toInt ∧ v1.toInt ≤ 80) → ((0 : Int) ≤ v2.toInt ∧ v2.toInt ≤ 1) → (pj_RI G) → (1 ≤ v2.toInt → pj_rd G (pj_fi G 171 22).toInt (pj_fi G 171 21).toInt) → ((pj_fi G 171 30).toInt ≤ 15) → ((pj_fi G 171 22).toInt ≤ 10) → 1000 + 20 * (11 - (pj_fi G 171 22).toInt) + 10 * v2.toInt < (mn : Int) → pj_X 18 pj_m191 G 43 [(0, .ref 171), (1, .int v1), (2, .int v2)] [] (fun v G' => ∃ y : Int32, v = some (.int y) ∧ pj_Inv G' ∧ pj_kpt pj_M5 G0 G' ∧ ((-2147483648 : Int) ≤ y.toInt ∧ y.toInt ≤ 2147483647) ∧ (pj_RI G' ∧ (pj_fi G' 171 30).toInt ≤ 15))) ∧ (∀ (G : pj_G) (hI : pj_Inv G) (hK : pj_kpt pj_M5 G0 G) (v1 : Int32) (v2 : Int32) (v3 : Int32) (v4 : Int32), ((0 : Int) ≤ v1.toInt ∧ v1.toInt ≤ 80) → ((0 : Int) ≤ v2.toInt ∧ v2.toInt ≤ 1) → ((-2147483648 : Int) ≤ v3.toInt ∧ v3.toInt ≤ 2147483647) → ((0 : Int) ≤ v4.toInt ∧ v4.toInt ≤ 10) → (pj_rd G (pj_fi G 171 4).toInt (pj_fi G 171 3).toInt) → (pj_ro G v4.toInt (pj_fi G 171 3).toInt) → ((pj_fi G 171 30).toInt ≤ 15) → (v4.toInt ≤ (pj_fi G 171 4).toInt) → 10 - v4.toInt < (mn : Int) → pj_X 18 pj_m191 G 107 [(0, .ref 171), (1, .int v1), (2, .int v2), (3, .int v3), (4, .int v4)] [] (fun v G' => ∃ y : Int32, v = some (.int y) ∧ pj_Inv G' ∧ pj_kpt pj_M5 G0 G' ∧ ((-2147483648 : Int) ≤ y.toInt ∧ y.toInt ≤ 2147483647) ∧ (pj_RI G' ∧ (pj_fi G' 171 30).toInt ≤ 15))) := by
  have c0_ : ((Int8.ofInt 10).toInt32).toInt = 10 := by decide
  have c1_ : ((Int8.ofInt 30).toInt32).toInt = 30 := by decide
  have c2_ : ((Int8.ofInt 31).toInt32).toInt = 31 := by decide
  have c3_ : ((Int8.ofInt 59).toInt32).toInt = 59 := by decide
  have c4_ : ((Int8.ofInt 72).toInt32).toInt = 72 := by decide
  have c5_ : (Int32.ofInt 0).toInt = 0 := by decide
  have c6_ : (Int32.ofInt 1).toInt = 1 := by decide
  have c7_ : (Int32.ofInt 2).toInt = 2 := by decide
  have c8_ : (Int32.ofInt 3).toInt = 3 := by decide
  have c9_ : (Int32.ofInt 4).toInt = 4 := by decide
  intro mn
  induction mn with
  | zero =>
    refine ⟨?_, ?_⟩
    · intro G hI hK v1 v2 rv1 rv2 x0_ x1_ x2_ x3_ hm
      exfalso
      omega
    · intro G hI hK v1 v2 v3 v4 rv1 rv2 rv3 rv4 x0_ x1_ x2_ x3_ hm
      exfalso
      omega
  | succ mn ih =>
    refine ⟨?_, ?_⟩
    · intro G hI hK v1 v2 rv1 rv2 x0_ x1_ x2_ x3_ hm
      obtain ⟨y1, hy1⟩ : ∃ z : Int32, z = pj_fi G 171 30 := ⟨_, rfl⟩
      have ey1 : (pj_fi G 171 30).toInt = y1.toInt := by rw [hy1]
      have ry1 : (0 : Int) ≤ y1.toInt ∧ y1.toInt ≤ 16 := by rw [hy1]; exact hI.2.1 171 30 (0, 16) rfl
      obtain ⟨y2, hy2⟩ : ∃ z : Int32, z = pj_fi G 171 22 := ⟨_, rfl⟩
      have ey2 : (pj_fi G 171 22).toInt = y2.toInt := by rw [hy2]
      have ry2 : (0 : Int) ≤ y2.toInt ∧ y2.toInt ≤ 10 := by rw [hy2]; exact hI.2.1 171 22 (0, 10) rfl
      obtain ⟨y3, hy3⟩ : ∃ z : Int32, z = pj_fi G 171 21 := ⟨_, rfl⟩
      have ey3 : (pj_fi G 171 21).toInt = y3.toInt := by rw [hy3]
      have ry3 : (0 : Int) ≤ y3.toInt ∧ y3.toInt ≤ 8 := by rw [hy3]; exact hI.2.1 171 21 (0, 8) rfl
      obtain ⟨y4, hy4⟩ : ∃ z : Int32, z = pj_fi G 171 3 := ⟨_, rfl⟩
      have ey4 : (pj_fi G 171 3).toInt = y4.toInt := by rw [hy4]
      have ry4 : (0 : Int) ≤ y4.toInt ∧ y4.toInt ≤ 8 := by rw [hy4]; exact hI.2.1 171 3 (0, 8) rfl
      obtain ⟨y5, hy5⟩ : ∃ z : Int32, z = pj_fi G 171 4 := ⟨_, rfl⟩
      have ey5 : (pj_fi G 171 4).toInt = y5.toInt := by rw [hy5]
      have ry5 : (0 : Int) ≤ y5.toInt ∧ y5.toInt ≤ 10 := by rw [hy5]; exact hI.2.1 171 4 (0, 10) rfl
      refine pj_X_of (fun r h => pj_R_to (G, 44, [(0, .ref 171), (1, .int v1), (2, .int v2)], [.int v2], 0, 0) 44 2 (fun _ => rfl) h) ?_
      cases b6 : pj_c1 .eq v2 0 with
      | true =>
        have ub6 := pj_u0_eqT b6
        refine pj_X_of (fun r h => pj_R_ifT 73 rfl rfl b6 h) ?_
        refine pj_X_of (fun r h => pj_R_to (G, 78, [(0, .ref 171), (1, .int v1), (2, .int v2)], [.int v2, .int ((Int8.ofInt 72).toInt32), .int v1, .ref 171], 0, 0) 78 5 (fun _ => rfl) h) ?_
        have q7 : (pj_fi G 171 30).toInt = y1.toInt := by rw [show pj_fi G 171 30 = y1 from hy1.symm]
        have q8 : (pj_fi G 171 22).toInt = y2.toInt := by rw [show pj_fi G 171 22 = y2 from hy2.symm]
        have q9 : (pj_fi G 171 21).toInt = y3.toInt := by rw [show pj_fi G 171 21 = y3 from hy3.symm]
        have q10 : (pj_fi G 171 3).toInt = y4.toInt := by rw [show pj_fi G 171 3 = y4 from hy4.symm]
        have q11 : (pj_fi G 171 4).toInt = y5.toInt := by rw [show pj_fi G 171 4 = y5 from hy5.symm]
        refine pj_X_ca (vs := [.ref 171, .int v1, .int ((Int8.ofInt 72).toInt32), .int v2]) rfl (fun _ => rfl) ⟨Nat.le_of_ble_eq_true rfl, Nat.le_of_ble_eq_true rfl, pj_T_rcv hI rfl⟩ ⟨rfl, rfl⟩ (pj_Y_up (by decide) (ct_188 G hI v1 ((Int8.ofInt 72).toInt32) v2 ⟨by omega, by omega⟩ ⟨by omega, by omega⟩ ⟨by omega, by omega⟩)) ?_
        rintro _ _ ⟨y12, rfl, rfl, ry12, ey12⟩
        show pj_X _ _ G 81 [(0, .ref 171), (1, .int v1), (2, .int v2)] [.int y12] _
        refine pj_X_of (fun r h => pj_R_to (G, 83, [(3, .int y12), (0, .ref 171), (1, .int v1), (2, .int v2)], [.int y12], 0, 0) 83 3 (fun _ => rfl) h) ?_
        cases b13 : pj_c1 .ge y12 0 with
        | true =>
          have ub13 := pj_u0_geT b13
          refine pj_X_of (fun r h => pj_R_ifT 88 rfl rfl b13 h) ?_
          refine pj_X_of (fun r h => pj_R_to (G, 90, [(3, .int y12), (0, .ref 171), (1, .int v1), (2, .int v2)], [.ref 171, .ref 171], 0, 0) 90 3 (fun _ => rfl) h) ?_
          have rd14 : pj_rd G (pj_fi G 171 22).toInt (pj_fi G 171 21).toInt := by rw [show pj_fi G 171 22 = pj_fi G 171 22 from by rfl, show pj_fi G 171 21 = pj_fi G 171 21 from by rfl]; exact pj_rd_k (fun j => by rfl) (x1_ (by omega))
          refine pj_X_of (fun r h => pj_T_gi hI rfl rfl h) ?_
          show pj_X _ _ G 93 [(3, .int y12), (0, .ref 171), (1, .int v1), (2, .int v2)] [.int (pj_fi G 171 21), .ref 171] _
          refine pj_X_eqi (show pj_fi G 171 21 = y3 from hy3.symm) ?_
          refine pj_X_of (fun r h => pj_T_pf hI rfl rfl rfl h) ?_
          show pj_X _ _ (pj_wv G 171 3 (.int y3)) 96 [(3, .int y12), (0, .ref 171), (1, .int v1), (2, .int v2)] [] _
          obtain ⟨G15, hG15⟩ : ∃ H, H = pj_wv G 171 3 (.int y3) := ⟨_, rfl⟩
          have iG15 : pj_Inv G15 := by rw [hG15]; exact pj_Inv_wi hI (ci := 12) rfl (fun q hq => by cases hq; exact ⟨by show (0 : Int) ≤ _; omega, by show _ ≤ (8 : Int); omega⟩)
          have kG15 : pj_kpt pj_M5 G0 G15 := by rw [hG15]; exact pj_kpt_v hK rfl
          rw [← hG15]
          refine pj_X_of (fun r h => pj_R_to (G15, 98, [(3, .int y12), (0, .ref 171), (1, .int v1), (2, .int v2)], [.ref 171, .ref 171], 0, 0) 98 3 (fun _ => rfl) h) ?_
          refine pj_X_of (fun r h => pj_T_gi iG15 rfl rfl h) ?_
          show pj_X _ _ G15 101 [(3, .int y12), (0, .ref 171), (1, .int v1), (2, .int v2)] [.int (pj_fi G15 171 22), .ref 171] _
          refine pj_X_eqi (show pj_fi G15 171 22 = y2 from by rw [hG15, pj_fi_wv_ne _ _ _ _ _ _ (by decide)]; exact hy2.symm) ?_
          refine pj_X_of (fun r h => pj_T_pf iG15 rfl rfl rfl h) ?_
          show pj_X _ _ (pj_wv G15 171 4 (.int y2)) 104 [(3, .int y12), (0, .ref 171), (1, .int v1), (2, .int v2)] [] _
          obtain ⟨G16, hG16⟩ : ∃ H, H = pj_wv G15 171 4 (.int y2) := ⟨_, rfl⟩
          have iG16 : pj_Inv G16 := by rw [hG16]; exact pj_Inv_wi iG15 (ci := 12) rfl (fun q hq => by cases hq; exact ⟨by show (0 : Int) ≤ _; omega, by show _ ≤ (10 : Int); omega⟩)
          have kG16 : pj_kpt pj_M5 G0 G16 := by rw [hG16]; exact pj_kpt_v kG15 rfl
          rw [← hG16]
          refine pj_X_of (fun r h => pj_R_to (G16, 107, [(4, .int (Int32.ofInt 0)), (3, .int y12), (0, .ref 171), (1, .int v1), (2, .int v2)], [], 0, 0) 107 3 (fun _ => rfl) h) ?_
          have q17 : (pj_fi G16 171 30).toInt = y1.toInt := by rw [show pj_fi G16 171 30 = y1 from by rw [hG16, pj_fi_wv_ne _ _ _ _ _ _ (by decide)]; exact (by rw [hG15, pj_fi_wv_ne _ _ _ _ _ _ (by decide)]; exact hy1.symm)]
          have q18 : (pj_fi G16 171 22).toInt = y2.toInt := by rw [show pj_fi G16 171 22 = y2 from by rw [hG16, pj_fi_wv_ne _ _ _ _ _ _ (by decide)]; exact (by rw [hG15, pj_fi_wv_ne _ _ _ _ _ _ (by decide)]; exact hy2.symm)]
          have q19 : (pj_fi G16 171 21).toInt = y3.toInt := by rw [show pj_fi G16 171 21 = y3 from by rw [hG16, pj_fi_wv_ne _ _ _ _ _ _ (by decide)]; exact (by rw [hG15, pj_fi_wv_ne _ _ _ _ _ _ (by decide)]; exact hy3.symm)]
          have q20 : (pj_fi G16 171 3).toInt = y3.toInt := by rw [show pj_fi G16 171 3 = y3 from by rw [hG16, pj_fi_wv_ne _ _ _ _ _ _ (by decide)]; exact (by rw [hG15]; exact pj_fi_wi hI.1 (ci := 12) rfl _)]
          have q21 : (pj_fi G16 171 4).toInt = y2.toInt := by rw [show pj_fi G16 171 4 = y2 from by rw [hG16]; exact pj_fi_wi iG15.1 (ci := 12) rfl _]
          have q22 : (pj_fi G16 171 30).toInt = y1.toInt := by rw [show pj_fi G16 171 30 = y1 from by rw [hG16, pj_fi_wv_ne _ _ _ _ _ _ (by decide)]; exact (by rw [hG15, pj_fi_wv_ne _ _ _ _ _ _ (by decide)]; exact hy1.symm)]
          have q23 : (pj_fi G16 171 22).toInt = y2.toInt := by rw [show pj_fi G16 171 22 = y2 from by rw [hG16, pj_fi_wv_ne _ _ _ _ _ _ (by decide)]; exact (by rw [hG15, pj_fi_wv_ne _ _ _ _ _ _ (by decide)]; exact hy2.symm)]
          have q24 : (pj_fi G16 171 21).toInt = y3.toInt := by rw [show pj_fi G16 171 21 = y3 from by rw [hG16, pj_fi_wv_ne _ _ _ _ _ _ (by decide)]; exact (by rw [hG15, pj_fi_wv_ne _ _ _ _ _ _ (by decide)]; exact hy3.symm)]
          have q25 : (pj_fi G16 171 3).toInt = y3.toInt := by rw [show pj_fi G16 171 3 = y3 from by rw [hG16, pj_fi_wv_ne _ _ _ _ _ _ (by decide)]; exact (by rw [hG15]; exact pj_fi_wi hI.1 (ci := 12) rfl _)]
          have q26 : (pj_fi G16 171 4).toInt = y2.toInt := by rw [show pj_fi G16 171 4 = y2 from by rw [hG16]; exact pj_fi_wi iG15.1 (ci := 12) rfl _]
          have c27 : (pj_fi G16 171 4).toInt = (pj_fi G 171 22).toInt := by omega
          have c28 : (pj_fi G16 171 3).toInt = (pj_fi G 171 21).toInt := by omega
          exact pj_X_sub [(0, .ref 171), (1, .int v1), (2, .int v2), (3, .int y12), (4, .int (Int32.ofInt 0))] (show List.Nodup [0, 1, 2, 3, 4] by decide) ⟨rfl, rfl, rfl, rfl, rfl, trivial⟩ (ih.2 G16 iG16 kG16 v1 v2 y12 (Int32.ofInt 0) ⟨by omega, by omega⟩ ⟨by omega, by omega⟩ (pj_i32 _) ⟨by omega, by omega⟩ (by rw [c27, c28]; exact pj_rd_k (fun j => by rw [hG16, pj_ai_wv, hG15, pj_ai_wv]) rd14) (pj_ro_0 (by omega)) (by omega) (by omega) (by omega))
        | false =>
          have ub13 := pj_u0_geF b13
          refine pj_X_of (fun r h => pj_R_ifF rfl b13 h) ?_
          refine pj_X_of (fun r h => pj_R_to (G, 87, [(3, .int y12), (0, .ref 171), (1, .int v1), (2, .int v2)], [.int y12], 0, 0) 87 2 (fun _ => rfl) h) ?_
          have q29 : (pj_fi G 171 30).toInt = y1.toInt := by rw [show pj_fi G 171 30 = y1 from hy1.symm]
          have q30 : (pj_fi G 171 22).toInt = y2.toInt := by rw [show pj_fi G 171 22 = y2 from hy2.symm]
          have q31 : (pj_fi G 171 21).toInt = y3.toInt := by rw [show pj_fi G 171 21 = y3 from hy3.symm]
          have q32 : (pj_fi G 171 3).toInt = y4.toInt := by rw [show pj_fi G 171 3 = y4 from hy4.symm]
          have q33 : (pj_fi G 171 4).toInt = y5.toInt := by rw [show pj_fi G 171 4 = y5 from hy5.symm]
          have t34 : pj_kpt pj_MR G G := pj_kpt_r _ _
          exact pj_X_rt rfl rfl ⟨_, rfl, hI, hK, pj_i32 _, ⟨pj_RI_k x0_ t34, by omega⟩⟩
      | false =>
        have ub6 := pj_u0_eqF b6
        refine pj_X_of (fun r h => pj_R_ifF rfl b6 h) ?_
        refine pj_X_of (fun r h => pj_R_to (G, 48, [(0, .ref 171), (1, .int v1), (2, .int v2)], [.ref 171], 0, 0) 48 2 (fun _ => rfl) h) ?_
        refine pj_X_of (fun r h => pj_T_gi hI rfl rfl h) ?_
        show pj_X _ _ G 51 [(0, .ref 171), (1, .int v1), (2, .int v2)] [.int (pj_fi G 171 22)] _
        refine pj_X_eqi (show pj_fi G 171 22 = y2 from hy2.symm) ?_
        refine pj_X_of (fun r h => pj_R_to (G, 53, [(0, .ref 171), (1, .int v1), (2, .int v2)], [.int ((Int8.ofInt 10).toInt32), .int y2], 0, 0) 53 2 (fun _ => rfl) h) ?_
        cases b35 : pj_c1 .ge y2 ((Int8.ofInt 10).toInt32) with
        | true =>
          have ub35 := pj_u_geT b35
          refine pj_X_of (fun r h => pj_R_icT 73 rfl rfl b35 h) ?_
          refine pj_X_of (fun r h => pj_R_to (G, 78, [(0, .ref 171), (1, .int v1), (2, .int v2)], [.int v2, .int ((Int8.ofInt 72).toInt32), .int v1, .ref 171], 0, 0) 78 5 (fun _ => rfl) h) ?_
          have q36 : (pj_fi G 171 30).toInt = y1.toInt := by rw [show pj_fi G 171 30 = y1 from hy1.symm]
          have q37 : (pj_fi G 171 22).toInt = y2.toInt := by rw [show pj_fi G 171 22 = y2 from hy2.symm]
          have q38 : (pj_fi G 171 21).toInt = y3.toInt := by rw [show pj_fi G 171 21 = y3 from hy3.symm]
          have q39 : (pj_fi G 171 3).toInt = y4.toInt := by rw [show pj_fi G 171 3 = y4 from hy4.symm]
          have q40 : (pj_fi G 171 4).toInt = y5.toInt := by rw [show pj_fi G 171 4 = y5 from hy5.symm]
          refine pj_X_ca (vs := [.ref 171, .int v1, .int ((Int8.ofInt 72).toInt32), .int v2]) rfl (fun _ => rfl) ⟨Nat.le_of_ble_eq_true rfl, Nat.le_of_ble_eq_true rfl, pj_T_rcv hI rfl⟩ ⟨rfl, rfl⟩ (pj_Y_up (by decide) (ct_188 G hI v1 ((Int8.ofInt 72).toInt32) v2 ⟨by omega, by omega⟩ ⟨by omega, by omega⟩ ⟨by omega, by omega⟩)) ?_
          rintro _ _ ⟨y41, rfl, rfl, ry41, ey41⟩
          show pj_X _ _ G 81 [(0, .ref 171), (1, .int v1), (2, .int v2)] [.int y41] _
          refine pj_X_of (fun r h => pj_R_to (G, 83, [(3, .int y41), (0, .ref 171), (1, .int v1), (2, .int v2)], [.int y41], 0, 0) 83 3 (fun _ => rfl) h) ?_
          cases b42 : pj_c1 .ge y41 0 with
          | true =>
            have ub42 := pj_u0_geT b42
            refine pj_X_of (fun r h => pj_R_ifT 88 rfl rfl b42 h) ?_
            refine pj_X_of (fun r h => pj_R_to (G, 90, [(3, .int y41), (0, .ref 171), (1, .int v1), (2, .int v2)], [.ref 171, .ref 171], 0, 0) 90 3 (fun _ => rfl) h) ?_
            have rd43 : pj_rd G (pj_fi G 171 22).toInt (pj_fi G 171 21).toInt := by rw [show pj_fi G 171 22 = pj_fi G 171 22 from by rfl, show pj_fi G 171 21 = pj_fi G 171 21 from by rfl]; exact pj_rd_k (fun j => by rfl) (x1_ (by omega))
            refine pj_X_of (fun r h => pj_T_gi hI rfl rfl h) ?_
            show pj_X _ _ G 93 [(3, .int y41), (0, .ref 171), (1, .int v1), (2, .int v2)] [.int (pj_fi G 171 21), .ref 171] _
            refine pj_X_eqi (show pj_fi G 171 21 = y3 from hy3.symm) ?_
            refine pj_X_of (fun r h => pj_T_pf hI rfl rfl rfl h) ?_
            show pj_X _ _ (pj_wv G 171 3 (.int y3)) 96 [(3, .int y41), (0, .ref 171), (1, .int v1), (2, .int v2)] [] _
            obtain ⟨G44, hG44⟩ : ∃ H, H = pj_wv G 171 3 (.int y3) := ⟨_, rfl⟩
            have iG44 : pj_Inv G44 := by rw [hG44]; exact pj_Inv_wi hI (ci := 12) rfl (fun q hq => by cases hq; exact ⟨by show (0 : Int) ≤ _; omega, by show _ ≤ (8 : Int); omega⟩)
            have kG44 : pj_kpt pj_M5 G0 G44 := by rw [hG44]; exact pj_kpt_v hK rfl
            rw [← hG44]
            refine pj_X_of (fun r h => pj_R_to (G44, 98, [(3, .int y41), (0, .ref 171), (1, .int v1), (2, .int v2)], [.ref 171, .ref 171], 0, 0) 98 3 (fun _ => rfl) h) ?_
            refine pj_X_of (fun r h => pj_T_gi iG44 rfl rfl h) ?_
            show pj_X _ _ G44 101 [(3, .int y41), (0, .ref 171), (1, .int v1), (2, .int v2)] [.int (pj_fi G44 171 22), .ref 171] _
            refine pj_X_eqi (show pj_fi G44 171 22 = y2 from by rw [hG44, pj_fi_wv_ne _ _ _ _ _ _ (by decide)]; exact hy2.symm) ?_
            refine pj_X_of (fun r h => pj_T_pf iG44 rfl rfl rfl h) ?_
            show pj_X _ _ (pj_wv G44 171 4 (.int y2)) 104 [(3, .int y41), (0, .ref 171), (1, .int v1), (2, .int v2)] [] _
            obtain ⟨G45, hG45⟩ : ∃ H, H = pj_wv G44 171 4 (.int y2) := ⟨_, rfl⟩
            have iG45 : pj_Inv G45 := by rw [hG45]; exact pj_Inv_wi iG44 (ci := 12) rfl (fun q hq => by cases hq; exact ⟨by show (0 : Int) ≤ _; omega, by show _ ≤ (10 : Int); omega⟩)
            have kG45 : pj_kpt pj_M5 G0 G45 := by rw [hG45]; exact pj_kpt_v kG44 rfl
            rw [← hG45]
            refine pj_X_of (fun r h => pj_R_to (G45, 107, [(4, .int (Int32.ofInt 0)), (3, .int y41), (0, .ref 171), (1, .int v1), (2, .int v2)], [], 0, 0) 107 3 (fun _ => rfl) h) ?_
            have q46 : (pj_fi G45 171 30).toInt = y1.toInt := by rw [show pj_fi G45 171 30 = y1 from by rw [hG45, pj_fi_wv_ne _ _ _ _ _ _ (by decide)]; exact (by rw [hG44, pj_fi_wv_ne _ _ _ _ _ _ (by decide)]; exact hy1.symm)]
            have q47 : (pj_fi G45 171 22).toInt = y2.toInt := by rw [show pj_fi G45 171 22 = y2 from by rw [hG45, pj_fi_wv_ne _ _ _ _ _ _ (by decide)]; exact (by rw [hG44, pj_fi_wv_ne _ _ _ _ _ _ (by decide)]; exact hy2.symm)]
            have q48 : (pj_fi G45 171 21).toInt = y3.toInt := by rw [show pj_fi G45 171 21 = y3 from by rw [hG45, pj_fi_wv_ne _ _ _ _ _ _ (by decide)]; exact (by rw [hG44, pj_fi_wv_ne _ _ _ _ _ _ (by decide)]; exact hy3.symm)]
            have q49 : (pj_fi G45 171 3).toInt = y3.toInt := by rw [show pj_fi G45 171 3 = y3 from by rw [hG45, pj_fi_wv_ne _ _ _ _ _ _ (by decide)]; exact (by rw [hG44]; exact pj_fi_wi hI.1 (ci := 12) rfl _)]
            have q50 : (pj_fi G45 171 4).toInt = y2.toInt := by rw [show pj_fi G45 171 4 = y2 from by rw [hG45]; exact pj_fi_wi iG44.1 (ci := 12) rfl _]
            have q51 : (pj_fi G45 171 30).toInt = y1.toInt := by rw [show pj_fi G45 171 30 = y1 from by rw [hG45, pj_fi_wv_ne _ _ _ _ _ _ (by decide)]; exact (by rw [hG44, pj_fi_wv_ne _ _ _ _ _ _ (by decide)]; exact hy1.symm)]
            have q52 : (pj_fi G45 171 22).toInt = y2.toInt := by rw [show pj_fi G45 171 22 = y2 from by rw [hG45, pj_fi_wv_ne _ _ _ _ _ _ (by decide)]; exact (by rw [hG44, pj_fi_wv_ne _ _ _ _ _ _ (by decide)]; exact hy2.symm)]
            have q53 : (pj_fi G45 171 21).toInt = y3.toInt := by rw [show pj_fi G45 171 21 = y3 from by rw [hG45, pj_fi_wv_ne _ _ _ _ _ _ (by decide)]; exact (by rw [hG44, pj_fi_wv_ne _ _ _ _ _ _ (by decide)]; exact hy3.symm)]
            have q54 : (pj_fi G45 171 3).toInt = y3.toInt := by rw [show pj_fi G45 171 3 = y3 from by rw [hG45, pj_fi_wv_ne _ _ _ _ _ _ (by decide)]; exact (by rw [hG44]; exact pj_fi_wi hI.1 (ci := 12) rfl _)]
            have q55 : (pj_fi G45 171 4).toInt = y2.toInt := by rw [show pj_fi G45 171 4 = y2 from by rw [hG45]; exact pj_fi_wi iG44.1 (ci := 12) rfl _]
            have c56 : (pj_fi G45 171 4).toInt = (pj_fi G 171 22).toInt := by omega
            have c57 : (pj_fi G45 171 3).toInt = (pj_fi G 171 21).toInt := by omega
            exact pj_X_sub [(0, .ref 171), (1, .int v1), (2, .int v2), (3, .int y41), (4, .int (Int32.ofInt 0))] (show List.Nodup [0, 1, 2, 3, 4] by decide) ⟨rfl, rfl, rfl, rfl, rfl, trivial⟩ (ih.2 G45 iG45 kG45 v1 v2 y41 (Int32.ofInt 0) ⟨by omega, by omega⟩ ⟨by omega, by omega⟩ (pj_i32 _) ⟨by omega, by omega⟩ (by rw [c56, c57]; exact pj_rd_k (fun j => by rw [hG45, pj_ai_wv, hG44, pj_ai_wv]) rd43) (pj_ro_0 (by omega)) (by omega) (by omega) (by omega))
          | false =>
            have ub42 := pj_u0_geF b42
            refine pj_X_of (fun r h => pj_R_ifF rfl b42 h) ?_
            refine pj_X_of (fun r h => pj_R_to (G, 87, [(3, .int y41), (0, .ref 171), (1, .int v1), (2, .int v2)], [.int y41], 0, 0) 87 2 (fun _ => rfl) h) ?_
            have q58 : (pj_fi G 171 30).toInt = y1.toInt := by rw [show pj_fi G 171 30 = y1 from hy1.symm]
            have q59 : (pj_fi G 171 22).toInt = y2.toInt := by rw [show pj_fi G 171 22 = y2 from hy2.symm]
            have q60 : (pj_fi G 171 21).toInt = y3.toInt := by rw [show pj_fi G 171 21 = y3 from hy3.symm]
            have q61 : (pj_fi G 171 3).toInt = y4.toInt := by rw [show pj_fi G 171 3 = y4 from hy4.symm]
            have q62 : (pj_fi G 171 4).toInt = y5.toInt := by rw [show pj_fi G 171 4 = y5 from hy5.symm]
            have t63 : pj_kpt pj_MR G G := pj_kpt_r _ _
            exact pj_X_rt rfl rfl ⟨_, rfl, hI, hK, pj_i32 _, ⟨pj_RI_k x0_ t63, by omega⟩⟩
        | false =>
          have ub35 := pj_u_geF b35
          refine pj_X_of (fun r h => pj_R_icF rfl b35 h) ?_
          refine pj_X_of (fun r h => pj_R_to (G, 59, [(0, .ref 171), (1, .int v1), (2, .int v2)], [.int ((Int8.ofInt 59).toInt32), .ref 171], 0, 0) 59 3 (fun _ => rfl) h) ?_
          have q64 : (pj_fi G 171 30).toInt = y1.toInt := by rw [show pj_fi G 171 30 = y1 from hy1.symm]
          have q65 : (pj_fi G 171 22).toInt = y2.toInt := by rw [show pj_fi G 171 22 = y2 from hy2.symm]
          have q66 : (pj_fi G 171 21).toInt = y3.toInt := by rw [show pj_fi G 171 21 = y3 from hy3.symm]
          have q67 : (pj_fi G 171 3).toInt = y4.toInt := by rw [show pj_fi G 171 3 = y4 from hy4.symm]
          have q68 : (pj_fi G 171 4).toInt = y5.toInt := by rw [show pj_fi G 171 4 = y5 from hy5.symm]
          refine pj_X_ca (vs := [.ref 171, .int ((Int8.ofInt 59).toInt32)]) rfl (fun _ => rfl) ⟨Nat.le_of_ble_eq_true rfl, Nat.le_of_ble_eq_true rfl, pj_T_rcv hI rfl⟩ ⟨rfl, rfl⟩ (pj_Y_up (by decide) (ct_182 G hI ((Int8.ofInt 59).toInt32) ⟨by omega, by omega⟩)) ?_
          rintro _ G70 ⟨y69, rfl, iG70, jG70, ry69, ey69⟩
          have kG70 : pj_kpt pj_M5 G0 G70 := pj_kpt_t hK (pj_kpt_s jG70 rfl)
          have q71 : (pj_fi G70 171 30).toInt = (pj_fi G 171 30).toInt := by rw [jG70.1 (171, 30) (by decide)]
          have q72 : (pj_fi G70 171 22).toInt = (pj_fi G 171 22).toInt := by rw [jG70.1 (171, 22) (by decide)]
          have q73 : (pj_fi G70 171 21).toInt = (pj_fi G 171 21).toInt := by rw [jG70.1 (171, 21) (by decide)]
          have q74 : (pj_fi G70 171 3).toInt = (pj_fi G 171 3).toInt := by rw [jG70.1 (171, 3) (by decide)]
          have q75 : (pj_fi G70 171 4).toInt = (pj_fi G 171 4).toInt := by rw [jG70.1 (171, 4) (by decide)]
          obtain ⟨y76, hy76⟩ : ∃ z : Int32, z = pj_fi G70 171 30 := ⟨_, rfl⟩
          have ey76 : (pj_fi G70 171 30).toInt = y76.toInt := by rw [hy76]
          have ry76 : (0 : Int) ≤ y76.toInt ∧ y76.toInt ≤ 16 := by rw [hy76]; exact iG70.2.1 171 30 (0, 16) rfl
          obtain ⟨y77, hy77⟩ : ∃ z : Int32, z = pj_fi G70 171 22 := ⟨_, rfl⟩
          have ey77 : (pj_fi G70 171 22).toInt = y77.toInt := by rw [hy77]
          have ry77 : (0 : Int) ≤ y77.toInt ∧ y77.toInt ≤ 10 := by rw [hy77]; exact iG70.2.1 171 22 (0, 10) rfl
          obtain ⟨y78, hy78⟩ : ∃ z : Int32, z = pj_fi G70 171 21 := ⟨_, rfl⟩
          have ey78 : (pj_fi G70 171 21).toInt = y78.toInt := by rw [hy78]
          have ry78 : (0 : Int) ≤ y78.toInt ∧ y78.toInt ≤ 8 := by rw [hy78]; exact iG70.2.1 171 21 (0, 8) rfl
          obtain ⟨y79, hy79⟩ : ∃ z : Int32, z = pj_fi G70 171 3 := ⟨_, rfl⟩
          have ey79 : (pj_fi G70 171 3).toInt = y79.toInt := by rw [hy79]
          have ry79 : (0 : Int) ≤ y79.toInt ∧ y79.toInt ≤ 8 := by rw [hy79]; exact iG70.2.1 171 3 (0, 8) rfl
          obtain ⟨y80, hy80⟩ : ∃ z : Int32, z = pj_fi G70 171 4 := ⟨_, rfl⟩
          have ey80 : (pj_fi G70 171 4).toInt = y80.toInt := by rw [hy80]
          have ry80 : (0 : Int) ≤ y80.toInt ∧ y80.toInt ≤ 10 := by rw [hy80]; exact iG70.2.1 171 4 (0, 10) rfl
          show pj_X _ _ G70 62 [(0, .ref 171), (1, .int v1), (2, .int v2)] [.int y69] _
          cases b81 : pj_c1 .eq y69 0 with
          | true =>
            have ub81 := pj_u0_eqT b81
            refine pj_X_of (fun r h => pj_R_ifT 73 rfl rfl b81 h) ?_
            refine pj_X_of (fun r h => pj_R_to (G70, 78, [(0, .ref 171), (1, .int v1), (2, .int v2)], [.int v2, .int ((Int8.ofInt 72).toInt32), .int v1, .ref 171], 0, 0) 78 5 (fun _ => rfl) h) ?_
            have q82 : (pj_fi G70 171 30).toInt = y76.toInt := by rw [show pj_fi G70 171 30 = y76 from hy76.symm]
            have q83 : (pj_fi G70 171 22).toInt = y77.toInt := by rw [show pj_fi G70 171 22 = y77 from hy77.symm]
            have q84 : (pj_fi G70 171 21).toInt = y78.toInt := by rw [show pj_fi G70 171 21 = y78 from hy78.symm]
            have q85 : (pj_fi G70 171 3).toInt = y79.toInt := by rw [show pj_fi G70 171 3 = y79 from hy79.symm]
            have q86 : (pj_fi G70 171 4).toInt = y80.toInt := by rw [show pj_fi G70 171 4 = y80 from hy80.symm]
            refine pj_X_ca (vs := [.ref 171, .int v1, .int ((Int8.ofInt 72).toInt32), .int v2]) rfl (fun _ => rfl) ⟨Nat.le_of_ble_eq_true rfl, Nat.le_of_ble_eq_true rfl, pj_T_rcv iG70 rfl⟩ ⟨rfl, rfl⟩ (pj_Y_up (by decide) (ct_188 G70 iG70 v1 ((Int8.ofInt 72).toInt32) v2 ⟨by omega, by omega⟩ ⟨by omega, by omega⟩ ⟨by omega, by omega⟩)) ?_
            rintro _ _ ⟨y87, rfl, rfl, ry87, ey87⟩
            show pj_X _ _ G70 81 [(0, .ref 171), (1, .int v1), (2, .int v2)] [.int y87] _
            refine pj_X_of (fun r h => pj_R_to (G70, 83, [(3, .int y87), (0, .ref 171), (1, .int v1), (2, .int v2)], [.int y87], 0, 0) 83 3 (fun _ => rfl) h) ?_
            cases b88 : pj_c1 .ge y87 0 with
            | true =>
              have ub88 := pj_u0_geT b88
              refine pj_X_of (fun r h => pj_R_ifT 88 rfl rfl b88 h) ?_
              refine pj_X_of (fun r h => pj_R_to (G70, 90, [(3, .int y87), (0, .ref 171), (1, .int v1), (2, .int v2)], [.ref 171, .ref 171], 0, 0) 90 3 (fun _ => rfl) h) ?_
              have rd89 : pj_rd G70 (pj_fi G70 171 22).toInt (pj_fi G70 171 21).toInt := by rw [show pj_fi G70 171 22 = pj_fi G 171 22 from by rw [jG70.1 (171, 22) (by decide)], show pj_fi G70 171 21 = pj_fi G 171 21 from by rw [jG70.1 (171, 21) (by decide)]]; exact pj_rd_k (fun j => by rw [jG70.2.2 181 (by decide)]) (x1_ (by omega))
              refine pj_X_of (fun r h => pj_T_gi iG70 rfl rfl h) ?_
              show pj_X _ _ G70 93 [(3, .int y87), (0, .ref 171), (1, .int v1), (2, .int v2)] [.int (pj_fi G70 171 21), .ref 171] _
              refine pj_X_eqi (show pj_fi G70 171 21 = y78 from hy78.symm) ?_
              refine pj_X_of (fun r h => pj_T_pf iG70 rfl rfl rfl h) ?_
              show pj_X _ _ (pj_wv G70 171 3 (.int y78)) 96 [(3, .int y87), (0, .ref 171), (1, .int v1), (2, .int v2)] [] _
              obtain ⟨G90, hG90⟩ : ∃ H, H = pj_wv G70 171 3 (.int y78) := ⟨_, rfl⟩
              have iG90 : pj_Inv G90 := by rw [hG90]; exact pj_Inv_wi iG70 (ci := 12) rfl (fun q hq => by cases hq; exact ⟨by show (0 : Int) ≤ _; omega, by show _ ≤ (8 : Int); omega⟩)
              have kG90 : pj_kpt pj_M5 G0 G90 := by rw [hG90]; exact pj_kpt_v kG70 rfl
              rw [← hG90]
              refine pj_X_of (fun r h => pj_R_to (G90, 98, [(3, .int y87), (0, .ref 171), (1, .int v1), (2, .int v2)], [.ref 171, .ref 171], 0, 0) 98 3 (fun _ => rfl) h) ?_
              refine pj_X_of (fun r h => pj_T_gi iG90 rfl rfl h) ?_
              show pj_X _ _ G90 101 [(3, .int y87), (0, .ref 171), (1, .int v1), (2, .int v2)] [.int (pj_fi G90 171 22), .ref 171] _
              refine pj_X_eqi (show pj_fi G90 171 22 = y77 from by rw [hG90, pj_fi_wv_ne _ _ _ _ _ _ (by decide)]; exact hy77.symm) ?_
              refine pj_X_of (fun r h => pj_T_pf iG90 rfl rfl rfl h) ?_
              show pj_X _ _ (pj_wv G90 171 4 (.int y77)) 104 [(3, .int y87), (0, .ref 171), (1, .int v1), (2, .int v2)] [] _
              obtain ⟨G91, hG91⟩ : ∃ H, H = pj_wv G90 171 4 (.int y77) := ⟨_, rfl⟩
              have iG91 : pj_Inv G91 := by rw [hG91]; exact pj_Inv_wi iG90 (ci := 12) rfl (fun q hq => by cases hq; exact ⟨by show (0 : Int) ≤ _; omega, by show _ ≤ (10 : Int); omega⟩)
              have kG91 : pj_kpt pj_M5 G0 G91 := by rw [hG91]; exact pj_kpt_v kG90 rfl
              rw [← hG91]
              refine pj_X_of (fun r h => pj_R_to (G91, 107, [(4, .int (Int32.ofInt 0)), (3, .int y87), (0, .ref 171), (1, .int v1), (2, .int v2)], [], 0, 0) 107 3 (fun _ => rfl) h) ?_
              have q92 : (pj_fi G91 171 30).toInt = y76.toInt := by rw [show pj_fi G91 171 30 = y76 from by rw [hG91, pj_fi_wv_ne _ _ _ _ _ _ (by decide)]; exact (by rw [hG90, pj_fi_wv_ne _ _ _ _ _ _ (by decide)]; exact hy76.symm)]
              have q93 : (pj_fi G91 171 22).toInt = y77.toInt := by rw [show pj_fi G91 171 22 = y77 from by rw [hG91, pj_fi_wv_ne _ _ _ _ _ _ (by decide)]; exact (by rw [hG90, pj_fi_wv_ne _ _ _ _ _ _ (by decide)]; exact hy77.symm)]
              have q94 : (pj_fi G91 171 21).toInt = y78.toInt := by rw [show pj_fi G91 171 21 = y78 from by rw [hG91, pj_fi_wv_ne _ _ _ _ _ _ (by decide)]; exact (by rw [hG90, pj_fi_wv_ne _ _ _ _ _ _ (by decide)]; exact hy78.symm)]
              have q95 : (pj_fi G91 171 3).toInt = y78.toInt := by rw [show pj_fi G91 171 3 = y78 from by rw [hG91, pj_fi_wv_ne _ _ _ _ _ _ (by decide)]; exact (by rw [hG90]; exact pj_fi_wi iG70.1 (ci := 12) rfl _)]
              have q96 : (pj_fi G91 171 4).toInt = y77.toInt := by rw [show pj_fi G91 171 4 = y77 from by rw [hG91]; exact pj_fi_wi iG90.1 (ci := 12) rfl _]
              have q97 : (pj_fi G91 171 30).toInt = y76.toInt := by rw [show pj_fi G91 171 30 = y76 from by rw [hG91, pj_fi_wv_ne _ _ _ _ _ _ (by decide)]; exact (by rw [hG90, pj_fi_wv_ne _ _ _ _ _ _ (by decide)]; exact hy76.symm)]
              have q98 : (pj_fi G91 171 22).toInt = y77.toInt := by rw [show pj_fi G91 171 22 = y77 from by rw [hG91, pj_fi_wv_ne _ _ _ _ _ _ (by decide)]; exact (by rw [hG90, pj_fi_wv_ne _ _ _ _ _ _ (by decide)]; exact hy77.symm)]
              have q99 : (pj_fi G91 171 21).toInt = y78.toInt := by rw [show pj_fi G91 171 21 = y78 from by rw [hG91, pj_fi_wv_ne _ _ _ _ _ _ (by decide)]; exact (by rw [hG90, pj_fi_wv_ne _ _ _ _ _ _ (by decide)]; exact hy78.symm)]
              have q100 : (pj_fi G91 171 3).toInt = y78.toInt := by rw [show pj_fi G91 171 3 = y78 from by rw [hG91, pj_fi_wv_ne _ _ _ _ _ _ (by decide)]; exact (by rw [hG90]; exact pj_fi_wi iG70.1 (ci := 12) rfl _)]
              have q101 : (pj_fi G91 171 4).toInt = y77.toInt := by rw [show pj_fi G91 171 4 = y77 from by rw [hG91]; exact pj_fi_wi iG90.1 (ci := 12) rfl _]
              have c102 : (pj_fi G91 171 4).toInt = (pj_fi G70 171 22).toInt := by omega
              have c103 : (pj_fi G91 171 3).toInt = (pj_fi G70 171 21).toInt := by omega
              exact pj_X_sub [(0, .ref 171), (1, .int v1), (2, .int v2), (3, .int y87), (4, .int (Int32.ofInt 0))] (show List.Nodup [0, 1, 2, 3, 4] by decide) ⟨rfl, rfl, rfl, rfl, rfl, trivial⟩ (ih.2 G91 iG91 kG91 v1 v2 y87 (Int32.ofInt 0) ⟨by omega, by omega⟩ ⟨by omega, by omega⟩ (pj_i32 _) ⟨by omega, by omega⟩ (by rw [c102, c103]; exact pj_rd_k (fun j => by rw [hG91, pj_ai_wv, hG90, pj_ai_wv]) rd89) (pj_ro_0 (by omega)) (by omega) (by omega) (by omega))
            | false =>
              have ub88 := pj_u0_geF b88
              refine pj_X_of (fun r h => pj_R_ifF rfl b88 h) ?_
              refine pj_X_of (fun r h => pj_R_to (G70, 87, [(3, .int y87), (0, .ref 171), (1, .int v1), (2, .int v2)], [.int y87], 0, 0) 87 2 (fun _ => rfl) h) ?_
              have q104 : (pj_fi G70 171 30).toInt = y76.toInt := by rw [show pj_fi G70 171 30 = y76 from hy76.symm]
              have q105 : (pj_fi G70 171 22).toInt = y77.toInt := by rw [show pj_fi G70 171 22 = y77 from hy77.symm]
              have q106 : (pj_fi G70 171 21).toInt = y78.toInt := by rw [show pj_fi G70 171 21 = y78 from hy78.symm]
              have q107 : (pj_fi G70 171 3).toInt = y79.toInt := by rw [show pj_fi G70 171 3 = y79 from hy79.symm]
              have q108 : (pj_fi G70 171 4).toInt = y80.toInt := by rw [show pj_fi G70 171 4 = y80 from hy80.symm]
              have t109 : pj_kpt pj_MR G G := pj_kpt_r _ _
              have t110 : pj_kpt pj_MR G G70 := pj_kpt_t t109 (pj_kpt_s jG70 rfl)
              exact pj_X_rt rfl rfl ⟨_, rfl, iG70, kG70, pj_i32 _, ⟨pj_RI_k x0_ t110, by omega⟩⟩
          | false =>
            have ub81 := pj_u0_eqF b81
            refine pj_X_of (fun r h => pj_R_ifF rfl b81 h) ?_
            refine pj_X_of (fun r h => pj_R_to (G70, 66, [(0, .ref 171), (1, .int v1), (2, .int v2)], [.ref 171], 0, 0) 66 2 (fun _ => rfl) h) ?_
            have q111 : (pj_fi G70 171 30).toInt = y76.toInt := by rw [show pj_fi G70 171 30 = y76 from hy76.symm]
            have q112 : (pj_fi G70 171 22).toInt = y77.toInt := by rw [show pj_fi G70 171 22 = y77 from hy77.symm]
            have q113 : (pj_fi G70 171 21).toInt = y78.toInt := by rw [show pj_fi G70 171 21 = y78 from hy78.symm]
            have q114 : (pj_fi G70 171 3).toInt = y79.toInt := by rw [show pj_fi G70 171 3 = y79 from hy79.symm]
            have q115 : (pj_fi G70 171 4).toInt = y80.toInt := by rw [show pj_fi G70 171 4 = y80 from hy80.symm]
            refine pj_X_ca (vs := [.ref 171]) rfl (fun _ => rfl) ⟨Nat.le_of_ble_eq_true rfl, Nat.le_of_ble_eq_true rfl, pj_T_rcv iG70 rfl⟩ ⟨rfl, rfl⟩ (pj_Y_up (by decide) (ct_190 G70 iG70 (by omega))) ?_
            rintro _ G117 ⟨y116, rfl, iG117, jG117, ry116, ey116⟩
            have kG117 : pj_kpt pj_M5 G0 G117 := pj_kpt_t kG70 (pj_kpt_s jG117 rfl)
            have q118 : (pj_fi G117 171 30).toInt = (pj_fi G70 171 30).toInt := by rw [jG117.1 (171, 30) (by decide)]
            have q119 : (pj_fi G117 171 21).toInt = (pj_fi G70 171 21).toInt := by rw [jG117.1 (171, 21) (by decide)]
            have q120 : (pj_fi G117 171 3).toInt = (pj_fi G70 171 3).toInt := by rw [jG117.1 (171, 3) (by decide)]
            have q121 : (pj_fi G117 171 4).toInt = (pj_fi G70 171 4).toInt := by rw [jG117.1 (171, 4) (by decide)]
            obtain ⟨y122, hy122⟩ : ∃ z : Int32, z = pj_fi G117 171 30 := ⟨_, rfl⟩
            have ey122 : (pj_fi G117 171 30).toInt = y122.toInt := by rw [hy122]
            have ry122 : (0 : Int) ≤ y122.toInt ∧ y122.toInt ≤ 16 := by rw [hy122]; exact iG117.2.1 171 30 (0, 16) rfl
            obtain ⟨y123, hy123⟩ : ∃ z : Int32, z = pj_fi G117 171 22 := ⟨_, rfl⟩
            have ey123 : (pj_fi G117 171 22).toInt = y123.toInt := by rw [hy123]
            have ry123 : (0 : Int) ≤ y123.toInt ∧ y123.toInt ≤ 10 := by rw [hy123]; exact iG117.2.1 171 22 (0, 10) rfl
            obtain ⟨y124, hy124⟩ : ∃ z : Int32, z = pj_fi G117 171 21 := ⟨_, rfl⟩
            have ey124 : (pj_fi G117 171 21).toInt = y124.toInt := by rw [hy124]
            have ry124 : (0 : Int) ≤ y124.toInt ∧ y124.toInt ≤ 8 := by rw [hy124]; exact iG117.2.1 171 21 (0, 8) rfl
            obtain ⟨y125, hy125⟩ : ∃ z : Int32, z = pj_fi G117 171 3 := ⟨_, rfl⟩
            have ey125 : (pj_fi G117 171 3).toInt = y125.toInt := by rw [hy125]
            have ry125 : (0 : Int) ≤ y125.toInt ∧ y125.toInt ≤ 8 := by rw [hy125]; exact iG117.2.1 171 3 (0, 8) rfl
            obtain ⟨y126, hy126⟩ : ∃ z : Int32, z = pj_fi G117 171 4 := ⟨_, rfl⟩
            have ey126 : (pj_fi G117 171 4).toInt = y126.toInt := by rw [hy126]
            have ry126 : (0 : Int) ≤ y126.toInt ∧ y126.toInt ≤ 10 := by rw [hy126]; exact iG117.2.1 171 4 (0, 10) rfl
            show pj_X _ _ G117 69 [(0, .ref 171), (1, .int v1), (2, .int v2)] [.int y116] _
            refine pj_X_of (fun r h => pj_R_to (G117, 43, [(2, .int y116), (0, .ref 171), (1, .int v1)], [], 0, 0) 43 3 (fun _ => rfl) h) ?_
            have q127 : (pj_fi G117 171 30).toInt = y122.toInt := by rw [show pj_fi G117 171 30 = y122 from hy122.symm]
            have q128 : (pj_fi G117 171 22).toInt = y123.toInt := by rw [show pj_fi G117 171 22 = y123 from hy123.symm]
            have q129 : (pj_fi G117 171 21).toInt = y124.toInt := by rw [show pj_fi G117 171 21 = y124 from hy124.symm]
            have q130 : (pj_fi G117 171 3).toInt = y125.toInt := by rw [show pj_fi G117 171 3 = y125 from hy125.symm]
            have q131 : (pj_fi G117 171 4).toInt = y126.toInt := by rw [show pj_fi G117 171 4 = y126 from hy126.symm]
            have t132 : pj_kpt pj_MR G G := pj_kpt_r _ _
            have t133 : pj_kpt pj_MR G G70 := pj_kpt_t t132 (pj_kpt_s jG70 rfl)
            have t134 : pj_kpt pj_MR G G117 := pj_kpt_t t133 (pj_kpt_s jG117 rfl)
            have rd135 : 1 ≤ v2.toInt → pj_rd G70 (pj_fi G70 171 22).toInt (pj_fi G70 171 21).toInt := fun q => by rw [show pj_fi G70 171 22 = pj_fi G 171 22 from by rw [jG70.1 (171, 22) (by decide)], show pj_fi G70 171 21 = pj_fi G 171 21 from by rw [jG70.1 (171, 21) (by decide)]]; exact pj_rd_k (fun j => by rw [jG70.2.2 181 (by decide)]) (x1_ q)
            exact pj_X_sub [(0, .ref 171), (1, .int v1), (2, .int y116)] (show List.Nodup [0, 1, 2] by decide) ⟨rfl, rfl, rfl, trivial⟩ (ih.1 G117 iG117 kG117 v1 y116 ⟨by omega, by omega⟩ ⟨by omega, by omega⟩ (pj_RI_k x0_ t134) (fun q => (ey116.2 q).2 (rd135 (by omega))) (by omega) (by omega) (by omega))
    · intro G hI hK v1 v2 v3 v4 rv1 rv2 rv3 rv4 x0_ x1_ x2_ x3_ hm
      obtain ⟨y136, hy136⟩ : ∃ z : Int32, z = pj_fi G 171 30 := ⟨_, rfl⟩
      have ey136 : (pj_fi G 171 30).toInt = y136.toInt := by rw [hy136]
      have ry136 : (0 : Int) ≤ y136.toInt ∧ y136.toInt ≤ 16 := by rw [hy136]; exact hI.2.1 171 30 (0, 16) rfl
      obtain ⟨y137, hy137⟩ : ∃ z : Int32, z = pj_fi G 171 22 := ⟨_, rfl⟩
      have ey137 : (pj_fi G 171 22).toInt = y137.toInt := by rw [hy137]
      have ry137 : (0 : Int) ≤ y137.toInt ∧ y137.toInt ≤ 10 := by rw [hy137]; exact hI.2.1 171 22 (0, 10) rfl
      obtain ⟨y138, hy138⟩ : ∃ z : Int32, z = pj_fi G 171 21 := ⟨_, rfl⟩
      have ey138 : (pj_fi G 171 21).toInt = y138.toInt := by rw [hy138]
      have ry138 : (0 : Int) ≤ y138.toInt ∧ y138.toInt ≤ 8 := by rw [hy138]; exact hI.2.1 171 21 (0, 8) rfl
      obtain ⟨y139, hy139⟩ : ∃ z : Int32, z = pj_fi G 171 3 := ⟨_, rfl⟩
      have ey139 : (pj_fi G 171 3).toInt = y139.toInt := by rw [hy139]
      have ry139 : (0 : Int) ≤ y139.toInt ∧ y139.toInt ≤ 8 := by rw [hy139]; exact hI.2.1 171 3 (0, 8) rfl
      obtain ⟨y140, hy140⟩ : ∃ z : Int32, z = pj_fi G 171 4 := ⟨_, rfl⟩
      have ey140 : (pj_fi G 171 4).toInt = y140.toInt := by rw [hy140]
      have ry140 : (0 : Int) ≤ y140.toInt ∧ y140.toInt ≤ 10 := by rw [hy140]; exact hI.2.1 171 4 (0, 10) rfl
      refine pj_X_of (fun r h => pj_R_to (G, 110, [(0, .ref 171), (1, .int v1), (2, .int v2), (3, .int v3), (4, .int v4)], [.ref 171, .int v4], 0, 0) 110 3 (fun _ => rfl) h) ?_
      refine pj_X_of (fun r h => pj_T_gi hI rfl rfl h) ?_
      show pj_X _ _ G 113 [(0, .ref 171), (1, .int v1), (2, .int v2), (3, .int v3), (4, .int v4)] [.int (pj_fi G 171 4), .int v4] _
      refine pj_X_eqi (show pj_fi G 171 4 = y140 from hy140.symm) ?_
      cases b141 : pj_c1 .ge v4 y140 with
      | true =>
        have ub141 := pj_u_geT b141
        refine pj_X_of (fun r h => pj_R_icT 192 rfl rfl b141 h) ?_
        refine pj_X_of (fun r h => pj_R_to (G, 194, [(0, .ref 171), (1, .int v1), (2, .int v2), (3, .int v3), (4, .int v4)], [.int (Int32.ofInt 0), .ref 171], 0, 0) 194 3 (fun _ => rfl) h) ?_
        refine pj_X_of (fun r h => pj_T_pf hI rfl rfl rfl h) ?_
        show pj_X _ _ (pj_wv G 171 5 (.int (Int32.ofInt 0))) 197 [(0, .ref 171), (1, .int v1), (2, .int v2), (3, .int v3), (4, .int v4)] [] _
        obtain ⟨G142, hG142⟩ : ∃ H, H = pj_wv G 171 5 (.int (Int32.ofInt 0)) := ⟨_, rfl⟩
        have iG142 : pj_Inv G142 := by rw [hG142]; exact pj_Inv_wi hI (ci := 12) rfl (fun q hq => by cases hq; exact ⟨by show (0 : Int) ≤ _; omega, by show _ ≤ (6 : Int); omega⟩)
        have kG142 : pj_kpt pj_M5 G0 G142 := by rw [hG142]; exact pj_kpt_v hK rfl
        rw [← hG142]
        refine pj_X_of (fun r h => pj_R_to (G142, 199, [(0, .ref 171), (1, .int v1), (2, .int v2), (3, .int v3), (4, .int v4)], [.int (Int32.ofInt 0), .ref 171], 0, 0) 199 3 (fun _ => rfl) h) ?_
        refine pj_X_of (fun r h => pj_T_pf iG142 rfl rfl rfl h) ?_
        show pj_X _ _ (pj_wv G142 171 6 (.int (Int32.ofInt 0))) 202 [(0, .ref 171), (1, .int v1), (2, .int v2), (3, .int v3), (4, .int v4)] [] _
        obtain ⟨G143, hG143⟩ : ∃ H, H = pj_wv G142 171 6 (.int (Int32.ofInt 0)) := ⟨_, rfl⟩
        have iG143 : pj_Inv G143 := by rw [hG143]; exact pj_Inv_wi iG142 (ci := 12) rfl (fun q hq => by cases hq; exact ⟨by show (0 : Int) ≤ _; omega, by show _ ≤ (6 : Int); omega⟩)
        have kG143 : pj_kpt pj_M5 G0 G143 := by rw [hG143]; exact pj_kpt_v kG142 rfl
        rw [← hG143]
        refine pj_X_of (fun r h => pj_R_to (G143, 203, [(0, .ref 171), (1, .int v1), (2, .int v2), (3, .int v3), (4, .int v4)], [.ref 171], 0, 0) 203 2 (fun _ => rfl) h) ?_
        refine pj_X_of (fun r h => pj_T_gr iG143 rfl rfl rfl h) ?_
        refine pj_X_of (fun r h => pj_R_to (G143, 209, [(0, .ref 171), (1, .int v1), (2, .int v2), (3, .int v3), (4, .int v4)], [.int (Int32.ofInt 0), .int ((Int8.ofInt 30).toInt32), .ref 179], 0, 0) 209 3 (fun _ => rfl) h) ?_
        refine pj_X_of (fun r h => pj_T_is iG143 rfl rfl (by omega) (by omega) h) ?_
        show pj_X _ _ (pj_wa G143 179 ((Int8.ofInt 30).toInt32).toInt.toNat (Int32.ofInt 0)) 210 [(0, .ref 171), (1, .int v1), (2, .int v2), (3, .int v3), (4, .int v4)] [] _
        obtain ⟨G144, hG144⟩ : ∃ H, H = pj_wa G143 179 ((Int8.ofInt 30).toInt32).toInt.toNat (Int32.ofInt 0) := ⟨_, rfl⟩
        have iG144 : pj_Inv G144 := by rw [hG144]; exact pj_Inv_wa iG143 rfl (fun q hq => by cases hq) (fun n hn => ⟨fun h1 => ⟨fun h2 => by omega, fun h2 => by omega⟩, fun h1 => by omega⟩)
        have kG144 : pj_kpt pj_M5 G0 G144 := by rw [hG144]; exact pj_kpt_a kG143 rfl
        rw [← hG144]
        refine pj_X_of (fun r h => pj_R_to (G144, 211, [(0, .ref 171), (1, .int v1), (2, .int v2), (3, .int v3), (4, .int v4)], [.ref 171], 0, 0) 211 2 (fun _ => rfl) h) ?_
        refine pj_X_of (fun r h => pj_T_gr iG144 rfl rfl rfl h) ?_
        refine pj_X_of (fun r h => pj_R_to (G144, 217, [(0, .ref 171), (1, .int v1), (2, .int v2), (3, .int v3), (4, .int v4)], [.int (Int32.ofInt 0), .int ((Int8.ofInt 31).toInt32), .ref 179], 0, 0) 217 3 (fun _ => rfl) h) ?_
        refine pj_X_of (fun r h => pj_T_is iG144 rfl rfl (by omega) (by omega) h) ?_
        show pj_X _ _ (pj_wa G144 179 ((Int8.ofInt 31).toInt32).toInt.toNat (Int32.ofInt 0)) 218 [(0, .ref 171), (1, .int v1), (2, .int v2), (3, .int v3), (4, .int v4)] [] _
        obtain ⟨G145, hG145⟩ : ∃ H, H = pj_wa G144 179 ((Int8.ofInt 31).toInt32).toInt.toNat (Int32.ofInt 0) := ⟨_, rfl⟩
        have iG145 : pj_Inv G145 := by rw [hG145]; exact pj_Inv_wa iG144 rfl (fun q hq => by cases hq) (fun n hn => ⟨fun h1 => ⟨fun h2 => by omega, fun h2 => by omega⟩, fun h1 => by omega⟩)
        have kG145 : pj_kpt pj_M5 G0 G145 := by rw [hG145]; exact pj_kpt_a kG144 rfl
        rw [← hG145]
        refine pj_X_of (fun r h => pj_R_to (G145, 219, [(0, .ref 171), (1, .int v1), (2, .int v2), (3, .int v3), (4, .int v4)], [.ref 171], 0, 0) 219 2 (fun _ => rfl) h) ?_
        have q146 : (pj_fi G145 171 30).toInt = y136.toInt := by rw [show pj_fi G145 171 30 = y136 from by rw [hG145, pj_fi_wa]; exact (by rw [hG144, pj_fi_wa]; exact (by rw [hG143, pj_fi_wv_ne _ _ _ _ _ _ (by decide)]; exact (by rw [hG142, pj_fi_wv_ne _ _ _ _ _ _ (by decide)]; exact hy136.symm)))]
        have q147 : (pj_fi G145 171 22).toInt = y137.toInt := by rw [show pj_fi G145 171 22 = y137 from by rw [hG145, pj_fi_wa]; exact (by rw [hG144, pj_fi_wa]; exact (by rw [hG143, pj_fi_wv_ne _ _ _ _ _ _ (by decide)]; exact (by rw [hG142, pj_fi_wv_ne _ _ _ _ _ _ (by decide)]; exact hy137.symm)))]
        have q148 : (pj_fi G145 171 21).toInt = y138.toInt := by rw [show pj_fi G145 171 21 = y138 from by rw [hG145, pj_fi_wa]; exact (by rw [hG144, pj_fi_wa]; exact (by rw [hG143, pj_fi_wv_ne _ _ _ _ _ _ (by decide)]; exact (by rw [hG142, pj_fi_wv_ne _ _ _ _ _ _ (by decide)]; exact hy138.symm)))]
        have q149 : (pj_fi G145 171 3).toInt = y139.toInt := by rw [show pj_fi G145 171 3 = y139 from by rw [hG145, pj_fi_wa]; exact (by rw [hG144, pj_fi_wa]; exact (by rw [hG143, pj_fi_wv_ne _ _ _ _ _ _ (by decide)]; exact (by rw [hG142, pj_fi_wv_ne _ _ _ _ _ _ (by decide)]; exact hy139.symm)))]
        have q150 : (pj_fi G145 171 4).toInt = y140.toInt := by rw [show pj_fi G145 171 4 = y140 from by rw [hG145, pj_fi_wa]; exact (by rw [hG144, pj_fi_wa]; exact (by rw [hG143, pj_fi_wv_ne _ _ _ _ _ _ (by decide)]; exact (by rw [hG142, pj_fi_wv_ne _ _ _ _ _ _ (by decide)]; exact hy140.symm)))]
        refine pj_X_ca (vs := [.ref 171]) rfl (fun _ => rfl) ⟨Nat.le_of_ble_eq_true rfl, Nat.le_of_ble_eq_true rfl, pj_T_rcv iG145 rfl⟩ ⟨rfl, rfl⟩ (pj_Y_up (by decide) (ct_192 G145 iG145)) ?_
        rintro _ G152 ⟨rfl, iG152, jG152, eG152⟩
        have kG152 : pj_kpt pj_M5 G0 G152 := pj_kpt_t kG145 (pj_kpt_s jG152 rfl)
        have q153 : (pj_fi G152 171 3).toInt = (pj_fi G145 171 3).toInt := by rw [jG152.1 (171, 3) (by decide)]
        have q154 : (pj_fi G152 171 4).toInt = (pj_fi G145 171 4).toInt := by rw [jG152.1 (171, 4) (by decide)]
        obtain ⟨y155, hy155⟩ : ∃ z : Int32, z = pj_fi G152 171 30 := ⟨_, rfl⟩
        have ey155 : (pj_fi G152 171 30).toInt = y155.toInt := by rw [hy155]
        have ry155 : (0 : Int) ≤ y155.toInt ∧ y155.toInt ≤ 16 := by rw [hy155]; exact iG152.2.1 171 30 (0, 16) rfl
        obtain ⟨y156, hy156⟩ : ∃ z : Int32, z = pj_fi G152 171 22 := ⟨_, rfl⟩
        have ey156 : (pj_fi G152 171 22).toInt = y156.toInt := by rw [hy156]
        have ry156 : (0 : Int) ≤ y156.toInt ∧ y156.toInt ≤ 10 := by rw [hy156]; exact iG152.2.1 171 22 (0, 10) rfl
        obtain ⟨y157, hy157⟩ : ∃ z : Int32, z = pj_fi G152 171 21 := ⟨_, rfl⟩
        have ey157 : (pj_fi G152 171 21).toInt = y157.toInt := by rw [hy157]
        have ry157 : (0 : Int) ≤ y157.toInt ∧ y157.toInt ≤ 8 := by rw [hy157]; exact iG152.2.1 171 21 (0, 8) rfl
        obtain ⟨y158, hy158⟩ : ∃ z : Int32, z = pj_fi G152 171 3 := ⟨_, rfl⟩
        have ey158 : (pj_fi G152 171 3).toInt = y158.toInt := by rw [hy158]
        have ry158 : (0 : Int) ≤ y158.toInt ∧ y158.toInt ≤ 8 := by rw [hy158]; exact iG152.2.1 171 3 (0, 8) rfl
        obtain ⟨y159, hy159⟩ : ∃ z : Int32, z = pj_fi G152 171 4 := ⟨_, rfl⟩
        have ey159 : (pj_fi G152 171 4).toInt = y159.toInt := by rw [hy159]
        have ry159 : (0 : Int) ≤ y159.toInt ∧ y159.toInt ≤ 10 := by rw [hy159]; exact iG152.2.1 171 4 (0, 10) rfl
        show pj_X _ _ G152 222 [(0, .ref 171), (1, .int v1), (2, .int v2), (3, .int v3), (4, .int v4)] [] _
        refine pj_X_of (fun r h => pj_R_to (G152, 223, [(0, .ref 171), (1, .int v1), (2, .int v2), (3, .int v3), (4, .int v4)], [.ref 171], 0, 0) 223 2 (fun _ => rfl) h) ?_
        refine pj_X_of (fun r h => pj_T_gi iG152 rfl rfl h) ?_
        show pj_X _ _ G152 226 [(0, .ref 171), (1, .int v1), (2, .int v2), (3, .int v3), (4, .int v4)] [.int (pj_fi G152 171 4)] _
        refine pj_X_eqi (show pj_fi G152 171 4 = y159 from hy159.symm) ?_
        have q160 : (pj_fi G152 171 30).toInt = y155.toInt := by rw [show pj_fi G152 171 30 = y155 from hy155.symm]
        have q161 : (pj_fi G152 171 22).toInt = y156.toInt := by rw [show pj_fi G152 171 22 = y156 from hy156.symm]
        have q162 : (pj_fi G152 171 21).toInt = y157.toInt := by rw [show pj_fi G152 171 21 = y157 from hy157.symm]
        have q163 : (pj_fi G152 171 3).toInt = y158.toInt := by rw [show pj_fi G152 171 3 = y158 from hy158.symm]
        have q164 : (pj_fi G152 171 4).toInt = y159.toInt := by rw [show pj_fi G152 171 4 = y159 from hy159.symm]
        have hro : pj_ro G152 (pj_fi G152 171 4).toInt (pj_fi G152 171 3).toInt := by rw [show pj_fi G152 171 4 = pj_fi G 171 4 from by rw [jG152.1 (171, 4) (by decide), hG145, pj_fi_wa, hG144, pj_fi_wa, hG143, pj_fi_wv_ne _ _ _ _ _ _ (by decide), hG142, pj_fi_wv_ne _ _ _ _ _ _ (by decide)], show pj_fi G152 171 3 = pj_fi G 171 3 from by rw [jG152.1 (171, 3) (by decide), hG145, pj_fi_wa, hG144, pj_fi_wa, hG143, pj_fi_wv_ne _ _ _ _ _ _ (by decide), hG142, pj_fi_wv_ne _ _ _ _ _ _ (by decide)], show (pj_fi G 171 4).toInt = v4.toInt by omega]; exact pj_ro_k (fun j => by rw [jG152.2.2 173 (by decide), hG145, pj_ai_wa_ne _ _ _ _ _ _ (by decide), hG144, pj_ai_wa_ne _ _ _ _ _ _ (by decide), hG143, pj_ai_wv, hG142, pj_ai_wv]) (fun j => by rw [jG152.2.2 174 (by decide), hG145, pj_ai_wa_ne _ _ _ _ _ _ (by decide), hG144, pj_ai_wa_ne _ _ _ _ _ _ (by decide), hG143, pj_ai_wv, hG142, pj_ai_wv]) x1_
        exact pj_X_rt rfl rfl ⟨_, rfl, iG152, kG152, pj_i32 _, ⟨pj_RI_of hro p0_ (kG152.1 (171, 26) (by decide)) (fun j => kG152.2.2 182 (by decide) j), by omega⟩⟩
      | false =>
        have ub141 := pj_u_geF b141
        refine pj_X_of (fun r h => pj_R_icF rfl b141 h) ?_
        have hq := x0_ v4.toInt.toNat (by omega)
        refine pj_X_of (fun r h => pj_R_to (G, 117, [(0, .ref 171), (1, .int v1), (2, .int v2), (3, .int v3), (4, .int v4)], [.ref 171], 0, 0) 117 2 (fun _ => rfl) h) ?_
        refine pj_X_of (fun r h => pj_T_gr hI rfl rfl rfl h) ?_
        refine pj_X_of (fun r h => pj_R_to (G, 123, [(0, .ref 171), (1, .int v1), (2, .int v2), (3, .int v3), (4, .int v4)], [.ref 171, .int v4, .ref 173], 0, 0) 123 3 (fun _ => rfl) h) ?_
        refine pj_X_of (fun r h => pj_T_gr hI rfl rfl rfl h) ?_
        refine pj_X_of (fun r h => pj_R_to (G, 130, [(0, .ref 171), (1, .int v1), (2, .int v2), (3, .int v3), (4, .int v4)], [.int ((Int32.ofInt 4) * v4), .ref 181, .int v4, .ref 173], 0, 0) 130 4 (fun _ => rfl) h) ?_
        obtain ⟨z165, hz165⟩ : ∃ z : Int32, z = (Int32.ofInt 4) * v4 := ⟨_, rfl⟩
        refine pj_X_eqi hz165.symm ?_
        have fz165_0 : z165.toInt = 4 * v4.toInt := by rw [hz165]; exact pj_mulL (by decide) (by omega) (by omega)
        refine pj_X_of (fun r h => pj_T_il hI rfl rfl (by omega) (by omega) h) ?_
        show pj_X _ _ G 131 [(0, .ref 171), (1, .int v1), (2, .int v2), (3, .int v3), (4, .int v4)] [.int (pj_ai G 181 z165.toInt.toNat), .int v4, .ref 173] _
        obtain ⟨z166, hz166⟩ : ∃ z : Int32, z = pj_ai G 181 z165.toInt.toNat := ⟨_, rfl⟩
        refine pj_X_eqi hz166.symm ?_
        have ez166 : (pj_ai G 181 z165.toInt.toNat).toInt = z166.toInt := by rw [hz166]
        have fz166_0 : (-1 : Int) ≤ z166.toInt ∧ z166.toInt ≤ 99 ∧ (z166.toInt ≤ -1 ∨ -1 ≤ z166.toInt) := by rw [hz166]; exact hI.2.2.1 181 (40, -1, 99, -1, -1) rfl _ (by show _ < 40; omega)
        have k167 : z166.toInt = (pj_ai G 181 (4 * v4.toInt.toNat)).toInt := by rw [hz166, show z165.toInt.toNat = 4 * v4.toInt.toNat by omega]
        refine pj_X_of (fun r h => pj_T_is hI rfl rfl (by omega) (by omega) h) ?_
        show pj_X _ _ (pj_wa G 173 v4.toInt.toNat z166) 132 [(0, .ref 171), (1, .int v1), (2, .int v2), (3, .int v3), (4, .int v4)] [] _
        obtain ⟨G168, hG168⟩ : ∃ H, H = pj_wa G 173 v4.toInt.toNat z166 := ⟨_, rfl⟩
        have iG168 : pj_Inv G168 := by rw [hG168]; exact pj_Inv_wa hI rfl (fun q hq => by cases hq; exact ⟨by show (0 : Int) ≤ _; omega, by show _ ≤ (7 : Int); omega, by show _ ≤ (0 : Int) ∨ (0 : Int) ≤ _; omega⟩) (fun n hn => by cases hn)
        have kG168 : pj_kpt pj_M5 G0 G168 := by rw [hG168]; exact pj_kpt_a hK rfl
        rw [← hG168]
        refine pj_X_of (fun r h => pj_R_to (G168, 133, [(0, .ref 171), (1, .int v1), (2, .int v2), (3, .int v3), (4, .int v4)], [.ref 171], 0, 0) 133 2 (fun _ => rfl) h) ?_
        refine pj_X_of (fun r h => pj_T_gr iG168 rfl rfl rfl h) ?_
        refine pj_X_of (fun r h => pj_R_to (G168, 139, [(0, .ref 171), (1, .int v1), (2, .int v2), (3, .int v3), (4, .int v4)], [.ref 171, .int v4, .ref 174], 0, 0) 139 3 (fun _ => rfl) h) ?_
        refine pj_X_of (fun r h => pj_T_gr iG168 rfl rfl rfl h) ?_
        refine pj_X_of (fun r h => pj_R_to (G168, 146, [(0, .ref 171), (1, .int v1), (2, .int v2), (3, .int v3), (4, .int v4)], [.int ((Int32.ofInt 4) * v4), .ref 181, .int v4, .ref 174], 0, 0) 146 4 (fun _ => rfl) h) ?_
        obtain ⟨z169, hz169⟩ : ∃ z : Int32, z = (Int32.ofInt 4) * v4 := ⟨_, rfl⟩
        refine pj_X_eqi hz169.symm ?_
        have fz169_0 : z169.toInt = 4 * v4.toInt := by rw [hz169]; exact pj_mulL (by decide) (by omega) (by omega)
        refine pj_X_of (fun r h => pj_R_to (G168, 148, [(0, .ref 171), (1, .int v1), (2, .int v2), (3, .int v3), (4, .int v4)], [.int (z169 + (Int32.ofInt 1)), .ref 181, .int v4, .ref 174], 0, 0) 148 3 (fun _ => rfl) h) ?_
        obtain ⟨z170, hz170⟩ : ∃ z : Int32, z = z169 + (Int32.ofInt 1) := ⟨_, rfl⟩
        refine pj_X_eqi hz170.symm ?_
        have fz170_0 : z170.toInt = z169.toInt + (Int32.ofInt 1).toInt := by rw [hz170]; exact pj_addI (by have := pj_i32 z169; have := pj_i32 (Int32.ofInt 1); omega) (by have := pj_i32 z169; have := pj_i32 (Int32.ofInt 1); omega)
        refine pj_X_of (fun r h => pj_T_il iG168 rfl rfl (by omega) (by omega) h) ?_
        show pj_X _ _ G168 149 [(0, .ref 171), (1, .int v1), (2, .int v2), (3, .int v3), (4, .int v4)] [.int (pj_ai G168 181 z170.toInt.toNat), .int v4, .ref 174] _
        obtain ⟨z171, hz171⟩ : ∃ z : Int32, z = pj_ai G168 181 z170.toInt.toNat := ⟨_, rfl⟩
        refine pj_X_eqi hz171.symm ?_
        have ez171 : (pj_ai G168 181 z170.toInt.toNat).toInt = z171.toInt := by rw [hz171]
        have fz171_0 : (-1 : Int) ≤ z171.toInt ∧ z171.toInt ≤ 99 ∧ (z171.toInt ≤ -1 ∨ -1 ≤ z171.toInt) := by rw [hz171]; exact iG168.2.2.1 181 (40, -1, 99, -1, -1) rfl _ (by show _ < 40; omega)
        have k172 : z171.toInt = (pj_ai G 181 (4 * v4.toInt.toNat + 1)).toInt := by rw [hz171, hG168, pj_ai_wa_ne _ _ _ _ _ _ (by decide), show z170.toInt.toNat = 4 * v4.toInt.toNat + 1 by omega]
        refine pj_X_of (fun r h => pj_T_is iG168 rfl rfl (by omega) (by omega) h) ?_
        show pj_X _ _ (pj_wa G168 174 v4.toInt.toNat z171) 150 [(0, .ref 171), (1, .int v1), (2, .int v2), (3, .int v3), (4, .int v4)] [] _
        obtain ⟨G173, hG173⟩ : ∃ H, H = pj_wa G168 174 v4.toInt.toNat z171 := ⟨_, rfl⟩
        have iG173 : pj_Inv G173 := by rw [hG173]; exact pj_Inv_wa iG168 rfl (fun q hq => by cases hq; exact ⟨by show (0 : Int) ≤ _; omega, by show _ ≤ (7 : Int); omega, by show _ ≤ (0 : Int) ∨ (0 : Int) ≤ _; omega⟩) (fun n hn => by cases hn)
        have kG173 : pj_kpt pj_M5 G0 G173 := by rw [hG173]; exact pj_kpt_a kG168 rfl
        rw [← hG173]
        refine pj_X_of (fun r h => pj_R_to (G173, 151, [(0, .ref 171), (1, .int v1), (2, .int v2), (3, .int v3), (4, .int v4)], [.ref 171], 0, 0) 151 2 (fun _ => rfl) h) ?_
        refine pj_X_of (fun r h => pj_T_gr iG173 rfl rfl rfl h) ?_
        refine pj_X_of (fun r h => pj_R_to (G173, 157, [(0, .ref 171), (1, .int v1), (2, .int v2), (3, .int v3), (4, .int v4)], [.ref 171, .int v4, .ref 175], 0, 0) 157 3 (fun _ => rfl) h) ?_
        refine pj_X_of (fun r h => pj_T_gr iG173 rfl rfl rfl h) ?_
        refine pj_X_of (fun r h => pj_R_to (G173, 164, [(0, .ref 171), (1, .int v1), (2, .int v2), (3, .int v3), (4, .int v4)], [.int ((Int32.ofInt 4) * v4), .ref 181, .int v4, .ref 175], 0, 0) 164 4 (fun _ => rfl) h) ?_
        obtain ⟨z174, hz174⟩ : ∃ z : Int32, z = (Int32.ofInt 4) * v4 := ⟨_, rfl⟩
        refine pj_X_eqi hz174.symm ?_
        have fz174_0 : z174.toInt = 4 * v4.toInt := by rw [hz174]; exact pj_mulL (by decide) (by omega) (by omega)
        refine pj_X_of (fun r h => pj_R_to (G173, 166, [(0, .ref 171), (1, .int v1), (2, .int v2), (3, .int v3), (4, .int v4)], [.int (z174 + (Int32.ofInt 2)), .ref 181, .int v4, .ref 175], 0, 0) 166 3 (fun _ => rfl) h) ?_
        obtain ⟨z175, hz175⟩ : ∃ z : Int32, z = z174 + (Int32.ofInt 2) := ⟨_, rfl⟩
        refine pj_X_eqi hz175.symm ?_
        have fz175_0 : z175.toInt = z174.toInt + (Int32.ofInt 2).toInt := by rw [hz175]; exact pj_addI (by have := pj_i32 z174; have := pj_i32 (Int32.ofInt 2); omega) (by have := pj_i32 z174; have := pj_i32 (Int32.ofInt 2); omega)
        refine pj_X_of (fun r h => pj_T_il iG173 rfl rfl (by omega) (by omega) h) ?_
        show pj_X _ _ G173 167 [(0, .ref 171), (1, .int v1), (2, .int v2), (3, .int v3), (4, .int v4)] [.int (pj_ai G173 181 z175.toInt.toNat), .int v4, .ref 175] _
        obtain ⟨z176, hz176⟩ : ∃ z : Int32, z = pj_ai G173 181 z175.toInt.toNat := ⟨_, rfl⟩
        refine pj_X_eqi hz176.symm ?_
        have ez176 : (pj_ai G173 181 z175.toInt.toNat).toInt = z176.toInt := by rw [hz176]
        have fz176_0 : (-1 : Int) ≤ z176.toInt ∧ z176.toInt ≤ 99 ∧ (z176.toInt ≤ -1 ∨ -1 ≤ z176.toInt) := by rw [hz176]; exact iG173.2.2.1 181 (40, -1, 99, -1, -1) rfl _ (by show _ < 40; omega)
        have k177 : z176.toInt = (pj_ai G 181 (4 * v4.toInt.toNat + 2)).toInt := by rw [hz176, hG173, pj_ai_wa_ne _ _ _ _ _ _ (by decide), hG168, pj_ai_wa_ne _ _ _ _ _ _ (by decide), show z175.toInt.toNat = 4 * v4.toInt.toNat + 2 by omega]
        refine pj_X_of (fun r h => pj_T_is iG173 rfl rfl (by omega) (by omega) h) ?_
        show pj_X _ _ (pj_wa G173 175 v4.toInt.toNat z176) 168 [(0, .ref 171), (1, .int v1), (2, .int v2), (3, .int v3), (4, .int v4)] [] _
        obtain ⟨G178, hG178⟩ : ∃ H, H = pj_wa G173 175 v4.toInt.toNat z176 := ⟨_, rfl⟩
        have iG178 : pj_Inv G178 := by rw [hG178]; exact pj_Inv_wa iG173 rfl (fun q hq => by cases hq; exact ⟨by show (0 : Int) ≤ _; omega, by show _ ≤ (99 : Int); omega, by show _ ≤ (0 : Int) ∨ (0 : Int) ≤ _; omega⟩) (fun n hn => by cases hn)
        have kG178 : pj_kpt pj_M5 G0 G178 := by rw [hG178]; exact pj_kpt_a kG173 rfl
        rw [← hG178]
        refine pj_X_of (fun r h => pj_R_to (G178, 169, [(0, .ref 171), (1, .int v1), (2, .int v2), (3, .int v3), (4, .int v4)], [.ref 171], 0, 0) 169 2 (fun _ => rfl) h) ?_
        refine pj_X_of (fun r h => pj_T_gr iG178 rfl rfl rfl h) ?_
        refine pj_X_of (fun r h => pj_R_to (G178, 175, [(0, .ref 171), (1, .int v1), (2, .int v2), (3, .int v3), (4, .int v4)], [.ref 171, .int v4, .ref 176], 0, 0) 175 3 (fun _ => rfl) h) ?_
        refine pj_X_of (fun r h => pj_T_gr iG178 rfl rfl rfl h) ?_
        refine pj_X_of (fun r h => pj_R_to (G178, 182, [(0, .ref 171), (1, .int v1), (2, .int v2), (3, .int v3), (4, .int v4)], [.int ((Int32.ofInt 4) * v4), .ref 181, .int v4, .ref 176], 0, 0) 182 4 (fun _ => rfl) h) ?_
        obtain ⟨z179, hz179⟩ : ∃ z : Int32, z = (Int32.ofInt 4) * v4 := ⟨_, rfl⟩
        refine pj_X_eqi hz179.symm ?_
        have fz179_0 : z179.toInt = 4 * v4.toInt := by rw [hz179]; exact pj_mulL (by decide) (by omega) (by omega)
        refine pj_X_of (fun r h => pj_R_to (G178, 184, [(0, .ref 171), (1, .int v1), (2, .int v2), (3, .int v3), (4, .int v4)], [.int (z179 + (Int32.ofInt 3)), .ref 181, .int v4, .ref 176], 0, 0) 184 3 (fun _ => rfl) h) ?_
        obtain ⟨z180, hz180⟩ : ∃ z : Int32, z = z179 + (Int32.ofInt 3) := ⟨_, rfl⟩
        refine pj_X_eqi hz180.symm ?_
        have fz180_0 : z180.toInt = z179.toInt + (Int32.ofInt 3).toInt := by rw [hz180]; exact pj_addI (by have := pj_i32 z179; have := pj_i32 (Int32.ofInt 3); omega) (by have := pj_i32 z179; have := pj_i32 (Int32.ofInt 3); omega)
        refine pj_X_of (fun r h => pj_T_il iG178 rfl rfl (by omega) (by omega) h) ?_
        show pj_X _ _ G178 185 [(0, .ref 171), (1, .int v1), (2, .int v2), (3, .int v3), (4, .int v4)] [.int (pj_ai G178 181 z180.toInt.toNat), .int v4, .ref 176] _
        obtain ⟨z181, hz181⟩ : ∃ z : Int32, z = pj_ai G178 181 z180.toInt.toNat := ⟨_, rfl⟩
        refine pj_X_eqi hz181.symm ?_
        have ez181 : (pj_ai G178 181 z180.toInt.toNat).toInt = z181.toInt := by rw [hz181]
        have fz181_0 : (-1 : Int) ≤ z181.toInt ∧ z181.toInt ≤ 99 ∧ (z181.toInt ≤ -1 ∨ -1 ≤ z181.toInt) := by rw [hz181]; exact iG178.2.2.1 181 (40, -1, 99, -1, -1) rfl _ (by show _ < 40; omega)
        have k182 : z181.toInt = (pj_ai G 181 (4 * v4.toInt.toNat + 3)).toInt := by rw [hz181, hG178, pj_ai_wa_ne _ _ _ _ _ _ (by decide), hG173, pj_ai_wa_ne _ _ _ _ _ _ (by decide), hG168, pj_ai_wa_ne _ _ _ _ _ _ (by decide), show z180.toInt.toNat = 4 * v4.toInt.toNat + 3 by omega]
        refine pj_X_of (fun r h => pj_T_is iG178 rfl rfl (by omega) (by omega) h) ?_
        show pj_X _ _ (pj_wa G178 176 v4.toInt.toNat z181) 186 [(0, .ref 171), (1, .int v1), (2, .int v2), (3, .int v3), (4, .int v4)] [] _
        obtain ⟨G183, hG183⟩ : ∃ H, H = pj_wa G178 176 v4.toInt.toNat z181 := ⟨_, rfl⟩
        have iG183 : pj_Inv G183 := by rw [hG183]; exact pj_Inv_wa iG178 rfl (fun q hq => by cases hq) (fun n hn => by cases hn)
        have kG183 : pj_kpt pj_M5 G0 G183 := by rw [hG183]; exact pj_kpt_a kG178 rfl
        rw [← hG183]
        refine pj_X_of (fun r h => pj_R_to (G183, 189, [(4, .int (v4 + Int32.ofInt 1)), (0, .ref 171), (1, .int v1), (2, .int v2), (3, .int v3)], [], 0, 0) 189 2 (fun _ => rfl) h) ?_
        obtain ⟨z184, hz184⟩ : ∃ z : Int32, z = v4 + Int32.ofInt 1 := ⟨_, rfl⟩
        rw [← hz184]
        have fz184_0 : z184.toInt = v4.toInt + (Int32.ofInt 1).toInt := by rw [hz184]; exact pj_addI (by have := pj_i32 v4; have := pj_i32 (Int32.ofInt 1); omega) (by have := pj_i32 v4; have := pj_i32 (Int32.ofInt 1); omega)
        refine pj_X_of (fun r h => pj_R_to (G183, 107, [(4, .int z184), (0, .ref 171), (1, .int v1), (2, .int v2), (3, .int v3)], [], 0, 0) 107 2 (fun _ => rfl) h) ?_
        have q185 : (pj_fi G183 171 30).toInt = y136.toInt := by rw [show pj_fi G183 171 30 = y136 from by rw [hG183, pj_fi_wa]; exact (by rw [hG178, pj_fi_wa]; exact (by rw [hG173, pj_fi_wa]; exact (by rw [hG168, pj_fi_wa]; exact hy136.symm)))]
        have q186 : (pj_fi G183 171 22).toInt = y137.toInt := by rw [show pj_fi G183 171 22 = y137 from by rw [hG183, pj_fi_wa]; exact (by rw [hG178, pj_fi_wa]; exact (by rw [hG173, pj_fi_wa]; exact (by rw [hG168, pj_fi_wa]; exact hy137.symm)))]
        have q187 : (pj_fi G183 171 21).toInt = y138.toInt := by rw [show pj_fi G183 171 21 = y138 from by rw [hG183, pj_fi_wa]; exact (by rw [hG178, pj_fi_wa]; exact (by rw [hG173, pj_fi_wa]; exact (by rw [hG168, pj_fi_wa]; exact hy138.symm)))]
        have q188 : (pj_fi G183 171 3).toInt = y139.toInt := by rw [show pj_fi G183 171 3 = y139 from by rw [hG183, pj_fi_wa]; exact (by rw [hG178, pj_fi_wa]; exact (by rw [hG173, pj_fi_wa]; exact (by rw [hG168, pj_fi_wa]; exact hy139.symm)))]
        have q189 : (pj_fi G183 171 4).toInt = y140.toInt := by rw [show pj_fi G183 171 4 = y140 from by rw [hG183, pj_fi_wa]; exact (by rw [hG178, pj_fi_wa]; exact (by rw [hG173, pj_fi_wa]; exact (by rw [hG168, pj_fi_wa]; exact hy140.symm)))]
        have v190 : (pj_ai G183 173 v4.toInt.toNat).toInt = z166.toInt := by rw [hG183, pj_ai_wa_ne _ _ _ _ _ _ (by decide), hG178, pj_ai_wa_ne _ _ _ _ _ _ (by decide), hG173, pj_ai_wa_ne _ _ _ _ _ _ (by decide), hG168, pj_ai_wa_eq hI.1 rfl]
        have v191 : (pj_ai G183 174 v4.toInt.toNat).toInt = z171.toInt := by rw [hG183, pj_ai_wa_ne _ _ _ _ _ _ (by decide), hG178, pj_ai_wa_ne _ _ _ _ _ _ (by decide), hG173, pj_ai_wa_eq iG168.1 rfl]
        have hold : ∀ j : Nat, j < v4.toInt.toNat → pj_ai G183 173 j = pj_ai G 173 j ∧ pj_ai G183 174 j = pj_ai G 174 j := fun j hj => ⟨by rw [hG183, pj_ai_wa_ne _ _ _ _ _ _ (by decide), hG178, pj_ai_wa_ne _ _ _ _ _ _ (by decide), hG173, pj_ai_wa_ne _ _ _ _ _ _ (by decide), hG168, pj_ai_wa_nj _ _ _ _ _ (by omega)], by rw [hG183, pj_ai_wa_ne _ _ _ _ _ _ (by decide), hG178, pj_ai_wa_ne _ _ _ _ _ _ (by decide), hG173, pj_ai_wa_nj _ _ _ _ _ (by omega), hG168, pj_ai_wa_ne _ _ _ _ _ _ (by decide)]⟩
        have eb192 : pj_fi G183 171 3 = pj_fi G 171 3 := by rw [hG183, pj_fi_wa, hG178, pj_fi_wa, hG173, pj_fi_wa, hG168, pj_fi_wa]
        exact pj_X_sub [(0, .ref 171), (1, .int v1), (2, .int v2), (3, .int v3), (4, .int z184)] (show List.Nodup [0, 1, 2, 3, 4] by decide) ⟨rfl, rfl, rfl, rfl, rfl, trivial⟩ (ih.2 G183 iG183 kG183 v1 v2 v3 z184 ⟨by omega, by omega⟩ ⟨by omega, by omega⟩ (pj_i32 _) ⟨by omega, by omega⟩ (by rw [show pj_fi G183 171 4 = pj_fi G 171 4 from by rw [hG183, pj_fi_wa, hG178, pj_fi_wa, hG173, pj_fi_wa, hG168, pj_fi_wa], show pj_fi G183 171 3 = pj_fi G 171 3 from by rw [hG183, pj_fi_wa, hG178, pj_fi_wa, hG173, pj_fi_wa, hG168, pj_fi_wa]]; exact pj_rd_k (fun j => by rw [hG183, pj_ai_wa_ne _ _ _ _ _ _ (by decide), hG178, pj_ai_wa_ne _ _ _ _ _ _ (by decide), hG173, pj_ai_wa_ne _ _ _ _ _ _ (by decide), hG168, pj_ai_wa_ne _ _ _ _ _ _ (by decide)]) x0_) (by rw [eb192, show z184.toInt = v4.toInt + 1 by omega]; exact pj_ro_s x1_ v4.toInt.toNat (by omega) hold (by omega) (by omega)) (by omega) (by omega) (by omega))
theorem ct_191 (G0 : pj_G) (hI : pj_Inv G0) (p0_ : pj_RI G0) (p1_ : (pj_fi G0 171 30).toInt ≤ 15) : pj_Y 19 191 [.ref 171] G0 (fun v G' => ∃ y : Int32, v = some (.int y) ∧ pj_Inv G' ∧ pj_kpt pj_M5 G0 G' ∧ ((-2147483648 : Int) ≤ y.toInt ∧ y.toInt ≤ 2147483647) ∧ (pj_RI G' ∧ (pj_fi G' 171 30).toInt ≤ 15)) := by
  have c0_ : ((Int8.ofInt 10).toInt32).toInt = 10 := by decide
  have c1_ : ((Int8.ofInt 30).toInt32).toInt = 30 := by decide
  have c2_ : ((Int8.ofInt 31).toInt32).toInt = 31 := by decide
  have c3_ : ((Int8.ofInt 59).toInt32).toInt = 59 := by decide
  have c4_ : ((Int8.ofInt 72).toInt32).toInt = 72 := by decide
  have c5_ : (Int32.ofInt 0).toInt = 0 := by decide
  have c6_ : (Int32.ofInt 1).toInt = 1 := by decide
  have c7_ : (Int32.ofInt 2).toInt = 2 := by decide
  have c8_ : (Int32.ofInt 3).toInt = 3 := by decide
  have c9_ : (Int32.ofInt 4).toInt = 4 := by decide
  refine pj_Y_X (M := pj_m191) rfl rfl (Nat.le_of_ble_eq_true rfl) ?_
  have hK : pj_kpt pj_M5 G0 G0 := pj_kpt_r _ _
  show pj_X _ _ G0 0 [(0, .ref 171)] [] _
  obtain ⟨y193, hy193⟩ : ∃ z : Int32, z = pj_fi G0 171 30 := ⟨_, rfl⟩
  have ey193 : (pj_fi G0 171 30).toInt = y193.toInt := by rw [hy193]
  have ry193 : (0 : Int) ≤ y193.toInt ∧ y193.toInt ≤ 16 := by rw [hy193]; exact hI.2.1 171 30 (0, 16) rfl
  obtain ⟨y194, hy194⟩ : ∃ z : Int32, z = pj_fi G0 171 22 := ⟨_, rfl⟩
  have ey194 : (pj_fi G0 171 22).toInt = y194.toInt := by rw [hy194]
  have ry194 : (0 : Int) ≤ y194.toInt ∧ y194.toInt ≤ 10 := by rw [hy194]; exact hI.2.1 171 22 (0, 10) rfl
  obtain ⟨y195, hy195⟩ : ∃ z : Int32, z = pj_fi G0 171 21 := ⟨_, rfl⟩
  have ey195 : (pj_fi G0 171 21).toInt = y195.toInt := by rw [hy195]
  have ry195 : (0 : Int) ≤ y195.toInt ∧ y195.toInt ≤ 8 := by rw [hy195]; exact hI.2.1 171 21 (0, 8) rfl
  obtain ⟨y196, hy196⟩ : ∃ z : Int32, z = pj_fi G0 171 3 := ⟨_, rfl⟩
  have ey196 : (pj_fi G0 171 3).toInt = y196.toInt := by rw [hy196]
  have ry196 : (0 : Int) ≤ y196.toInt ∧ y196.toInt ≤ 8 := by rw [hy196]; exact hI.2.1 171 3 (0, 8) rfl
  obtain ⟨y197, hy197⟩ : ∃ z : Int32, z = pj_fi G0 171 4 := ⟨_, rfl⟩
  have ey197 : (pj_fi G0 171 4).toInt = y197.toInt := by rw [hy197]
  have ry197 : (0 : Int) ≤ y197.toInt ∧ y197.toInt ≤ 10 := by rw [hy197]; exact hI.2.1 171 4 (0, 10) rfl
  refine pj_X_of (fun r h => pj_R_to (G0, 2, [(0, .ref 171)], [.int (Int32.ofInt 0), .ref 171], 0, 0) 2 3 (fun _ => rfl) h) ?_
  refine pj_X_of (fun r h => pj_T_pf hI rfl rfl rfl h) ?_
  show pj_X _ _ (pj_wv G0 171 0 (.int (Int32.ofInt 0))) 5 [(0, .ref 171)] [] _
  obtain ⟨G198, hG198⟩ : ∃ H, H = pj_wv G0 171 0 (.int (Int32.ofInt 0)) := ⟨_, rfl⟩
  have iG198 : pj_Inv G198 := by rw [hG198]; exact pj_Inv_wi hI (ci := 12) rfl (fun q hq => by cases hq)
  have kG198 : pj_kpt pj_M5 G0 G198 := by rw [hG198]; exact pj_kpt_v hK rfl
  rw [← hG198]
  refine pj_X_of (fun r h => pj_R_to (G198, 8, [(0, .ref 171)], [.int ((Int8.ofInt 72).toInt32), .ref 171], 0, 0) 8 3 (fun _ => rfl) h) ?_
  have q199 : (pj_fi G198 171 30).toInt = y193.toInt := by rw [show pj_fi G198 171 30 = y193 from by rw [hG198, pj_fi_wv_ne _ _ _ _ _ _ (by decide)]; exact hy193.symm]
  have q200 : (pj_fi G198 171 22).toInt = y194.toInt := by rw [show pj_fi G198 171 22 = y194 from by rw [hG198, pj_fi_wv_ne _ _ _ _ _ _ (by decide)]; exact hy194.symm]
  have q201 : (pj_fi G198 171 21).toInt = y195.toInt := by rw [show pj_fi G198 171 21 = y195 from by rw [hG198, pj_fi_wv_ne _ _ _ _ _ _ (by decide)]; exact hy195.symm]
  have q202 : (pj_fi G198 171 3).toInt = y196.toInt := by rw [show pj_fi G198 171 3 = y196 from by rw [hG198, pj_fi_wv_ne _ _ _ _ _ _ (by decide)]; exact hy196.symm]
  have q203 : (pj_fi G198 171 4).toInt = y197.toInt := by rw [show pj_fi G198 171 4 = y197 from by rw [hG198, pj_fi_wv_ne _ _ _ _ _ _ (by decide)]; exact hy197.symm]
  refine pj_X_ca (vs := [.ref 171, .int ((Int8.ofInt 72).toInt32)]) rfl (fun _ => rfl) ⟨Nat.le_of_ble_eq_true rfl, Nat.le_of_ble_eq_true rfl, pj_T_rcv iG198 rfl⟩ ⟨rfl, rfl⟩ (pj_Y_up (by decide) (ct_181 G198 iG198 ((Int8.ofInt 72).toInt32) ⟨by omega, by omega⟩)) ?_
  rintro _ G205 ⟨y204, rfl, iG205, jG205, ry204, ey204⟩
  have kG205 : pj_kpt pj_M5 G0 G205 := pj_kpt_t kG198 (pj_kpt_s jG205 rfl)
  have q206 : (pj_fi G205 171 30).toInt = (pj_fi G198 171 30).toInt := by rw [jG205.1 (171, 30) (by decide)]
  have q207 : (pj_fi G205 171 3).toInt = (pj_fi G198 171 3).toInt := by rw [jG205.1 (171, 3) (by decide)]
  have q208 : (pj_fi G205 171 4).toInt = (pj_fi G198 171 4).toInt := by rw [jG205.1 (171, 4) (by decide)]
  obtain ⟨y209, hy209⟩ : ∃ z : Int32, z = pj_fi G205 171 30 := ⟨_, rfl⟩
  have ey209 : (pj_fi G205 171 30).toInt = y209.toInt := by rw [hy209]
  have ry209 : (0 : Int) ≤ y209.toInt ∧ y209.toInt ≤ 16 := by rw [hy209]; exact iG205.2.1 171 30 (0, 16) rfl
  obtain ⟨y210, hy210⟩ : ∃ z : Int32, z = pj_fi G205 171 22 := ⟨_, rfl⟩
  have ey210 : (pj_fi G205 171 22).toInt = y210.toInt := by rw [hy210]
  have ry210 : (0 : Int) ≤ y210.toInt ∧ y210.toInt ≤ 10 := by rw [hy210]; exact iG205.2.1 171 22 (0, 10) rfl
  obtain ⟨y211, hy211⟩ : ∃ z : Int32, z = pj_fi G205 171 21 := ⟨_, rfl⟩
  have ey211 : (pj_fi G205 171 21).toInt = y211.toInt := by rw [hy211]
  have ry211 : (0 : Int) ≤ y211.toInt ∧ y211.toInt ≤ 8 := by rw [hy211]; exact iG205.2.1 171 21 (0, 8) rfl
  obtain ⟨y212, hy212⟩ : ∃ z : Int32, z = pj_fi G205 171 3 := ⟨_, rfl⟩
  have ey212 : (pj_fi G205 171 3).toInt = y212.toInt := by rw [hy212]
  have ry212 : (0 : Int) ≤ y212.toInt ∧ y212.toInt ≤ 8 := by rw [hy212]; exact iG205.2.1 171 3 (0, 8) rfl
  obtain ⟨y213, hy213⟩ : ∃ z : Int32, z = pj_fi G205 171 4 := ⟨_, rfl⟩
  have ey213 : (pj_fi G205 171 4).toInt = y213.toInt := by rw [hy213]
  have ry213 : (0 : Int) ≤ y213.toInt ∧ y213.toInt ≤ 10 := by rw [hy213]; exact iG205.2.1 171 4 (0, 10) rfl
  show pj_X _ _ G205 11 [(0, .ref 171)] [.int y204] _
  refine pj_X_of (fun r h => pj_R_to (G205, 14, [(1, .int y204), (0, .ref 171)], [.int (Int32.ofInt 0), .ref 171], 0, 0) 14 4 (fun _ => rfl) h) ?_
  refine pj_X_of (fun r h => pj_T_pf iG205 rfl rfl rfl h) ?_
  show pj_X _ _ (pj_wv G205 171 22 (.int (Int32.ofInt 0))) 17 [(1, .int y204), (0, .ref 171)] [] _
  obtain ⟨G214, hG214⟩ : ∃ H, H = pj_wv G205 171 22 (.int (Int32.ofInt 0)) := ⟨_, rfl⟩
  have iG214 : pj_Inv G214 := by rw [hG214]; exact pj_Inv_wi iG205 (ci := 12) rfl (fun q hq => by cases hq; exact ⟨by show (0 : Int) ≤ _; omega, by show _ ≤ (10 : Int); omega⟩)
  have kG214 : pj_kpt pj_M5 G0 G214 := by rw [hG214]; exact pj_kpt_v kG205 rfl
  rw [← hG214]
  refine pj_X_of (fun r h => pj_R_to (G214, 22, [(1, .int y204), (0, .ref 171)], [.retAddr 10, .ref 171, .int (Int32.ofInt 2), .ref 171], 0, 0) 22 5 (fun _ => rfl) h) ?_
  have q215 : (pj_fi G214 171 30).toInt = y209.toInt := by rw [show pj_fi G214 171 30 = y209 from by rw [hG214, pj_fi_wv_ne _ _ _ _ _ _ (by decide)]; exact hy209.symm]
  have q216 : (pj_fi G214 171 22).toInt = (Int32.ofInt 0).toInt := by rw [show pj_fi G214 171 22 = Int32.ofInt 0 from by rw [hG214]; exact pj_fi_wi iG205.1 (ci := 12) rfl _]
  have q217 : (pj_fi G214 171 21).toInt = y211.toInt := by rw [show pj_fi G214 171 21 = y211 from by rw [hG214, pj_fi_wv_ne _ _ _ _ _ _ (by decide)]; exact hy211.symm]
  have q218 : (pj_fi G214 171 3).toInt = y212.toInt := by rw [show pj_fi G214 171 3 = y212 from by rw [hG214, pj_fi_wv_ne _ _ _ _ _ _ (by decide)]; exact hy212.symm]
  have q219 : (pj_fi G214 171 4).toInt = y213.toInt := by rw [show pj_fi G214 171 4 = y213 from by rw [hG214, pj_fi_wv_ne _ _ _ _ _ _ (by decide)]; exact hy213.symm]
  refine pj_X_ca (vs := [.ref 171, .retAddr 10]) rfl (fun _ => rfl) ⟨Nat.le_of_ble_eq_true rfl, Nat.le_of_ble_eq_true rfl, pj_T_rcv iG214 rfl⟩ ⟨rfl, rfl⟩ (pj_Y_up (by decide) (ct_185_s10 G214 iG214)) ?_
  rintro _ G221 ⟨y220, rfl, iG221, jG221, ry220, ey220⟩
  have kG221 : pj_kpt pj_M5 G0 G221 := pj_kpt_t kG214 (pj_kpt_s jG221 rfl)
  have q222 : (pj_fi G221 171 30).toInt = (pj_fi G214 171 30).toInt := by rw [jG221.1 (171, 30) (by decide)]
  have q223 : (pj_fi G221 171 22).toInt = (pj_fi G214 171 22).toInt := by rw [jG221.1 (171, 22) (by decide)]
  have q224 : (pj_fi G221 171 21).toInt = (pj_fi G214 171 21).toInt := by rw [jG221.1 (171, 21) (by decide)]
  have q225 : (pj_fi G221 171 3).toInt = (pj_fi G214 171 3).toInt := by rw [jG221.1 (171, 3) (by decide)]
  have q226 : (pj_fi G221 171 4).toInt = (pj_fi G214 171 4).toInt := by rw [jG221.1 (171, 4) (by decide)]
  obtain ⟨y227, hy227⟩ : ∃ z : Int32, z = pj_fi G221 171 30 := ⟨_, rfl⟩
  have ey227 : (pj_fi G221 171 30).toInt = y227.toInt := by rw [hy227]
  have ry227 : (0 : Int) ≤ y227.toInt ∧ y227.toInt ≤ 16 := by rw [hy227]; exact iG221.2.1 171 30 (0, 16) rfl
  obtain ⟨y228, hy228⟩ : ∃ z : Int32, z = pj_fi G221 171 22 := ⟨_, rfl⟩
  have ey228 : (pj_fi G221 171 22).toInt = y228.toInt := by rw [hy228]
  have ry228 : (0 : Int) ≤ y228.toInt ∧ y228.toInt ≤ 10 := by rw [hy228]; exact iG221.2.1 171 22 (0, 10) rfl
  obtain ⟨y229, hy229⟩ : ∃ z : Int32, z = pj_fi G221 171 21 := ⟨_, rfl⟩
  have ey229 : (pj_fi G221 171 21).toInt = y229.toInt := by rw [hy229]
  have ry229 : (0 : Int) ≤ y229.toInt ∧ y229.toInt ≤ 8 := by rw [hy229]; exact iG221.2.1 171 21 (0, 8) rfl
  obtain ⟨y230, hy230⟩ : ∃ z : Int32, z = pj_fi G221 171 3 := ⟨_, rfl⟩
  have ey230 : (pj_fi G221 171 3).toInt = y230.toInt := by rw [hy230]
  have ry230 : (0 : Int) ≤ y230.toInt ∧ y230.toInt ≤ 8 := by rw [hy230]; exact iG221.2.1 171 3 (0, 8) rfl
  obtain ⟨y231, hy231⟩ : ∃ z : Int32, z = pj_fi G221 171 4 := ⟨_, rfl⟩
  have ey231 : (pj_fi G221 171 4).toInt = y231.toInt := by rw [hy231]
  have ry231 : (0 : Int) ≤ y231.toInt ∧ y231.toInt ≤ 10 := by rw [hy231]; exact iG221.2.1 171 4 (0, 10) rfl
  show pj_X _ _ G221 25 [(1, .int y204), (0, .ref 171)] [.int y220, .int (Int32.ofInt 2), .ref 171] _
  refine pj_X_of (fun r h => pj_R_to (G221, 26, [(1, .int y204), (0, .ref 171)], [.int ((Int32.ofInt 2) + y220), .ref 171], 0, 0) 26 2 (fun _ => rfl) h) ?_
  obtain ⟨z232, hz232⟩ : ∃ z : Int32, z = (Int32.ofInt 2) + y220 := ⟨_, rfl⟩
  refine pj_X_eqi hz232.symm ?_
  have fz232_0 : z232.toInt = (Int32.ofInt 2).toInt + y220.toInt := by rw [hz232]; exact pj_addI (by have := pj_i32 (Int32.ofInt 2); have := pj_i32 y220; omega) (by have := pj_i32 (Int32.ofInt 2); have := pj_i32 y220; omega)
  refine pj_X_of (fun r h => pj_T_pf iG221 rfl rfl rfl h) ?_
  show pj_X _ _ (pj_wv G221 171 21 (.int z232)) 29 [(1, .int y204), (0, .ref 171)] [] _
  obtain ⟨G233, hG233⟩ : ∃ H, H = pj_wv G221 171 21 (.int z232) := ⟨_, rfl⟩
  have iG233 : pj_Inv G233 := by rw [hG233]; exact pj_Inv_wi iG221 (ci := 12) rfl (fun q hq => by cases hq; exact ⟨by show (0 : Int) ≤ _; omega, by show _ ≤ (8 : Int); omega⟩)
  have kG233 : pj_kpt pj_M5 G0 G233 := by rw [hG233]; exact pj_kpt_v kG221 rfl
  rw [← hG233]
  refine pj_X_of (fun r h => pj_R_to (G233, 30, [(1, .int y204), (0, .ref 171)], [.ref 171], 0, 0) 30 2 (fun _ => rfl) h) ?_
  refine pj_X_of (fun r h => pj_T_gi iG233 rfl rfl h) ?_
  show pj_X _ _ G233 33 [(1, .int y204), (0, .ref 171)] [.int (pj_fi G233 171 21)] _
  refine pj_X_eqi (show pj_fi G233 171 21 = z232 from by rw [hG233]; exact pj_fi_wi iG221.1 (ci := 12) rfl _) ?_
  refine pj_X_of (fun r h => pj_R_to (G233, 34, [(1, .int y204), (0, .ref 171)], [.int (Int32.ofInt 1), .int z232], 0, 0) 34 2 (fun _ => rfl) h) ?_
  cases b234 : pj_c1 .le z232 (Int32.ofInt 1) with
  | true =>
    have ub234 := pj_u_leT b234
    refine pj_X_of (fun r h => pj_R_icT 41 rfl rfl b234 h) ?_
    refine pj_X_of (fun r h => pj_R_to (G233, 43, [(2, .int (Int32.ofInt 0)), (1, .int y204), (0, .ref 171)], [], 0, 0) 43 3 (fun _ => rfl) h) ?_
    have q235 : (pj_fi G233 171 30).toInt = y227.toInt := by rw [show pj_fi G233 171 30 = y227 from by rw [hG233, pj_fi_wv_ne _ _ _ _ _ _ (by decide)]; exact hy227.symm]
    have q236 : (pj_fi G233 171 22).toInt = y228.toInt := by rw [show pj_fi G233 171 22 = y228 from by rw [hG233, pj_fi_wv_ne _ _ _ _ _ _ (by decide)]; exact hy228.symm]
    have q237 : (pj_fi G233 171 21).toInt = z232.toInt := by rw [show pj_fi G233 171 21 = z232 from by rw [hG233]; exact pj_fi_wi iG221.1 (ci := 12) rfl _]
    have q238 : (pj_fi G233 171 3).toInt = y230.toInt := by rw [show pj_fi G233 171 3 = y230 from by rw [hG233, pj_fi_wv_ne _ _ _ _ _ _ (by decide)]; exact hy230.symm]
    have q239 : (pj_fi G233 171 4).toInt = y231.toInt := by rw [show pj_fi G233 171 4 = y231 from by rw [hG233, pj_fi_wv_ne _ _ _ _ _ _ (by decide)]; exact hy231.symm]
    have t240 : pj_kpt pj_MR G0 G0 := pj_kpt_r _ _
    have t241 : pj_kpt pj_MR G0 G198 := by rw [hG198]; exact pj_kpt_v t240 rfl
    have t242 : pj_kpt pj_MR G0 G205 := pj_kpt_t t241 (pj_kpt_s jG205 rfl)
    have t243 : pj_kpt pj_MR G0 G214 := by rw [hG214]; exact pj_kpt_v t242 rfl
    have t244 : pj_kpt pj_MR G0 G221 := pj_kpt_t t243 (pj_kpt_s jG221 rfl)
    have t245 : pj_kpt pj_MR G0 G233 := by rw [hG233]; exact pj_kpt_v t244 rfl
    exact pj_X_sub [(0, .ref 171), (1, .int y204), (2, .int (Int32.ofInt 0))] (show List.Nodup [0, 1, 2] by decide) ⟨rfl, rfl, rfl, trivial⟩ ((lp_ct_191 G0 hI   p0_ p1_ 2001).1 G233 iG233 kG233 y204 (Int32.ofInt 0) ⟨by omega, by omega⟩ ⟨by omega, by omega⟩ (pj_RI_k p0_ t245) (fun _ => pj_rd_0 (by omega)) (by omega) (by omega) (by omega))
  | false =>
    have ub234 := pj_u_leF b234
    refine pj_X_of (fun r h => pj_R_icF rfl b234 h) ?_
    refine pj_X_of (fun r h => pj_R_to (G233, 43, [(2, .int (Int32.ofInt 1)), (1, .int y204), (0, .ref 171)], [], 0, 0) 43 4 (fun _ => rfl) h) ?_
    have q246 : (pj_fi G233 171 30).toInt = y227.toInt := by rw [show pj_fi G233 171 30 = y227 from by rw [hG233, pj_fi_wv_ne _ _ _ _ _ _ (by decide)]; exact hy227.symm]
    have q247 : (pj_fi G233 171 22).toInt = y228.toInt := by rw [show pj_fi G233 171 22 = y228 from by rw [hG233, pj_fi_wv_ne _ _ _ _ _ _ (by decide)]; exact hy228.symm]
    have q248 : (pj_fi G233 171 21).toInt = z232.toInt := by rw [show pj_fi G233 171 21 = z232 from by rw [hG233]; exact pj_fi_wi iG221.1 (ci := 12) rfl _]
    have q249 : (pj_fi G233 171 3).toInt = y230.toInt := by rw [show pj_fi G233 171 3 = y230 from by rw [hG233, pj_fi_wv_ne _ _ _ _ _ _ (by decide)]; exact hy230.symm]
    have q250 : (pj_fi G233 171 4).toInt = y231.toInt := by rw [show pj_fi G233 171 4 = y231 from by rw [hG233, pj_fi_wv_ne _ _ _ _ _ _ (by decide)]; exact hy231.symm]
    have t251 : pj_kpt pj_MR G0 G0 := pj_kpt_r _ _
    have t252 : pj_kpt pj_MR G0 G198 := by rw [hG198]; exact pj_kpt_v t251 rfl
    have t253 : pj_kpt pj_MR G0 G205 := pj_kpt_t t252 (pj_kpt_s jG205 rfl)
    have t254 : pj_kpt pj_MR G0 G214 := by rw [hG214]; exact pj_kpt_v t253 rfl
    have t255 : pj_kpt pj_MR G0 G221 := pj_kpt_t t254 (pj_kpt_s jG221 rfl)
    have t256 : pj_kpt pj_MR G0 G233 := by rw [hG233]; exact pj_kpt_v t255 rfl
    exact pj_X_sub [(0, .ref 171), (1, .int y204), (2, .int (Int32.ofInt 1))] (show List.Nodup [0, 1, 2] by decide) ⟨rfl, rfl, rfl, trivial⟩ ((lp_ct_191 G0 hI   p0_ p1_ 2001).1 G233 iG233 kG233 y204 (Int32.ofInt 1) ⟨by omega, by omega⟩ ⟨by omega, by omega⟩ (pj_RI_k p0_ t256) (fun _ => pj_rd_0 (by omega)) (by omega) (by omega) (by omega))
