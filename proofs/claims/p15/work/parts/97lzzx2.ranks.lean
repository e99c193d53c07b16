def kc_197x : pj_KT := ([(171, 27)], [171, 183], [183])
noncomputable def F_198x (G0 : pj_G) (c : Int32) : pj_G := pj_nm (pj_fi G0 171 27) (fun y1 => pj_nm (pj_wa G0 183 y1.toInt.toNat c) (fun G2 => pj_nm (y1 + (Int32.ofInt 1)) (fun z3 => pj_nm (pj_wv G2 171 27 (.int z3)) (fun G4 => G4))))
theorem F_198x_e (G0 : pj_G) (c : Int32) : F_198x G0 c = pj_nm (pj_fi G0 171 27) (fun y1 => pj_nm (pj_wa G0 183 y1.toInt.toNat c) (fun G2 => pj_nm (y1 + (Int32.ofInt 1)) (fun z3 => pj_nm (pj_wv G2 171 27 (.int z3)) (fun G4 => G4)))) := rfl
theorem ct_197x (G0 : pj_G) (hI : pj_Inv G0) (c : Int32) (p0_ : -1 ≤ c.toInt ∧ c.toInt ≤ 3000 ∧ (c.toInt ≤ 1006 ∨ 2000 ≤ c.toInt)) (p1_ : (pj_fi G0 171 27).toInt ≤ 79) : pj_Y 1 197 [.ref 171, .int c] G0 (fun v' G' => v' = none ∧ pj_Inv G' ∧ pj_kpt kc_197x G0 G' ∧ (∀ H, G0 = H → (pj_qc H G' c)) ∧ (G' = F_198x G0 c)) := by
  have c0_ : (Int32.ofInt 1).toInt = 1 := by decide
  refine pj_Y_X (M := pj_m197) rfl rfl (Nat.le_of_ble_eq_true rfl) ?_
  have hK : pj_kpt kc_197x G0 G0 := pj_kpt_r _ _
  show pj_X _ _ G0 0 [(0, .ref 171), (1, .int c)] [] _
  rw [F_198x_e]
  obtain ⟨y1, hy1⟩ : ∃ z : Int32, z = pj_fi G0 171 27 := ⟨_, rfl⟩
  have ey1 : (pj_fi G0 171 27).toInt = y1.toInt := by rw [hy1]
  have ry1 : (0 : Int) ≤ y1.toInt ∧ y1.toInt ≤ 80 := by rw [hy1]; exact hI.2.1 171 27 (0, 80) rfl
  refine pj_X_of (fun r h => pj_R_to (G0, 1, [(0, .ref 171), (1, .int c)], [.ref 171], 0, 0) 1 2 (fun _ => rfl) h) ?_
  refine pj_X_of (fun r h => pj_T_gr hI rfl rfl rfl h) ?_
  refine pj_X_of (fun r h => pj_R_to (G0, 5, [(0, .ref 171), (1, .int c)], [.ref 171, .ref 183], 0, 0) 5 2 (fun _ => rfl) h) ?_
  refine pj_X_of (fun r h => pj_T_gi hI rfl rfl h) ?_
  show pj_X _ _ G0 8 [(0, .ref 171), (1, .int c)] [.int (pj_fi G0 171 27), .ref 183] _
  rw [← hy1, pj_nm_e]
  refine pj_X_of (fun r h => pj_R_to (G0, 9, [(0, .ref 171), (1, .int c)], [.int c, .int y1, .ref 183], 0, 0) 9 2 (fun _ => rfl) h) ?_
  refine pj_X_of (fun r h => pj_T_is hI rfl rfl (by omega) (by omega) h) ?_
  show pj_X _ _ (pj_wa G0 183 y1.toInt.toNat c) 10 [(0, .ref 171), (1, .int c)] [] _
  obtain ⟨G2, hG2⟩ : ∃ H, H = pj_wa G0 183 y1.toInt.toNat c := ⟨_, rfl⟩
  have iG2 : pj_Inv G2 := by rw [hG2]; exact pj_Inv_wa hI rfl (fun q hq => by cases hq; exact ⟨by show (-1 : Int) ≤ _; omega, by show _ ≤ (3000 : Int); omega, by show _ ≤ (1006 : Int) ∨ (2000 : Int) ≤ _; omega⟩) (fun n hn => by cases hn)
  have kG2 : pj_kpt kc_197x G0 G2 := by rw [hG2]; exact pj_kpt_a hK rfl
  rw [← hG2]
  rw [pj_nm_e]
  refine pj_X_of (fun r h => pj_R_to (G2, 12, [(0, .ref 171), (1, .int c)], [.ref 171, .ref 171], 0, 0) 12 3 (fun _ => rfl) h) ?_
  refine pj_X_of (fun r h => pj_T_gi iG2 rfl rfl h) ?_
  show pj_X _ _ G2 15 [(0, .ref 171), (1, .int c)] [.int (pj_fi G2 171 27), .ref 171] _
  refine pj_X_eqi (show pj_fi G2 171 27 = y1 from by rw [hG2, pj_fi_wa]; exact hy1.symm) ?_
  refine pj_X_of (fun r h => pj_R_to (G2, 17, [(0, .ref 171), (1, .int c)], [.int (y1 + (Int32.ofInt 1)), .ref 171], 0, 0) 17 3 (fun _ => rfl) h) ?_
  obtain ⟨z3, hz3⟩ : ∃ z : Int32, z = y1 + (Int32.ofInt 1) := ⟨_, rfl⟩
  refine pj_X_eqi hz3.symm ?_
  rw [← hz3, pj_nm_e]
  have fz3_0 : z3.toInt = y1.toInt + (Int32.ofInt 1).toInt := by rw [hz3]; exact pj_addI (by have := pj_i32 y1; have := pj_i32 (Int32.ofInt 1); omega) (by have := pj_i32 y1; have := pj_i32 (Int32.ofInt 1); omega)
  refine pj_X_of (fun r h => pj_T_pf iG2 rfl rfl rfl h) ?_
  show pj_X _ _ (pj_wv G2 171 27 (.int z3)) 20 [(0, .ref 171), (1, .int c)] [] _
  obtain ⟨G4, hG4⟩ : ∃ H, H = pj_wv G2 171 27 (.int z3) := ⟨_, rfl⟩
  have iG4 : pj_Inv G4 := by rw [hG4]; exact pj_Inv_wi iG2 (ci := 12) rfl (fun q hq => by cases hq; exact ⟨by show (0 : Int) ≤ _; omega, by show _ ≤ (80 : Int); omega⟩)
  have kG4 : pj_kpt kc_197x G0 G4 := by rw [hG4]; exact pj_kpt_v kG2 rfl
  rw [← hG4]
  rw [pj_nm_e]
  have q5 : (pj_fi G4 171 27).toInt = z3.toInt := by rw [show pj_fi G4 171 27 = z3 from by rw [hG4]; exact pj_fi_wi iG2.1 (ci := 12) rfl _]
  have hn : ∀ j : Nat, (j : Int) ≠ (pj_fi G0 171 27).toInt → pj_ai G4 183 j = pj_ai G0 183 j := fun j hj => by rw [hG4, pj_ai_wv, hG2, pj_ai_wa_nj _ _ _ _ _ (by omega)]
  have hv : (pj_ai G4 183 (pj_fi G0 171 27).toInt.toNat).toInt = c.toInt := by rw [show (pj_fi G0 171 27).toInt.toNat = y1.toInt.toNat by omega, hG4, pj_ai_wv, hG2, pj_ai_wa_eq hI.1 rfl]
  exact pj_X_rt rfl rfl ⟨rfl, iG4, kG4, (fun H hH => by subst hH; exact (⟨by omega, hn, hv⟩)), rfl⟩
theorem fr_198x (G0 : pj_G) (hI : pj_Inv G0) (c : Int32) (p0_ : -1 ≤ c.toInt ∧ c.toInt ≤ 3000 ∧ (c.toInt ≤ 1006 ∨ 2000 ≤ c.toInt)) (p1_ : (pj_fi G0 171 27).toInt ≤ 79) : pj_Inv (F_198x G0 c) ∧ pj_kpt kc_197x G0 (F_198x G0 c) ∧ (pj_qc G0 (F_198x G0 c) c) := by
  obtain ⟨v, G', -, -, i, j, x, e⟩ := ct_197x G0 hI c p0_ p1_
  rw [← e]
  exact ⟨i, j, x _ rfl⟩
noncomputable def F_199x (rr : Nat → Int32 → pj_G → Int32 × pj_G) (G0 : pj_G) : Int32 × pj_G := pj_bd (F_183x G0 ((Int8.ofInt 45).toInt32)) (fun y9 G10 => cond (pj_c1 .eq y9 0) (pj_nm (F_184x G10) (fun y23 => cond (pj_c1 .eq y23 0) (pj_bd (F_186_s11x G10) (fun y29 G30 => cond (pj_c1 .lt y29 0) (pj_nm (pj_fi G30 171 19) (fun y37 => cond (pj_c1 .eq y37 (Int32.ofInt 4)) ((Int32.ofInt 0, G30)) (pj_bd (F_183x G30 ((Int8.ofInt 40).toInt32)) (fun y48 G49 => cond (pj_c1 .ne y48 0) (pj_nm (pj_fi G49 171 19) (fun y56 => pj_nm (y56 + (Int32.ofInt 1)) (fun z58 => pj_nm (pj_wv G49 171 19 (.int z58)) (fun G59 => pj_bd (rr 1 (Int32.ofInt 0) G59) (fun y64 G65 => cond (pj_c1 .eq y64 0) ((Int32.ofInt 0, G65)) (pj_bd (F_183x G65 ((Int8.ofInt 41).toInt32)) (fun y80 G81 => cond (pj_c1 .ne y80 0) (pj_nm (pj_fi G81 171 19) (fun y88 => pj_nm (y88 - (Int32.ofInt 1)) (fun z90 => pj_nm (pj_wv G81 171 19 (.int z90)) (fun G91 => (Int32.ofInt 1, G91))))) ((Int32.ofInt 0, G81))))))))) ((Int32.ofInt 0, G49)))))) (pj_nm (((Int16.ofInt 1000).toInt32) + y29) (fun z104 => pj_nm (F_198x G30 z104) (fun G110 => (Int32.ofInt 1, G110)))))) (pj_bd (F_187ex G10 (Int32.ofInt 3)) (fun y127 G128 => pj_nm (F_198x G128 y127) (fun G141 => (Int32.ofInt 1, G141)))))) (pj_bd (rr 0 0 G10) (fun y158 G159 => pj_nm (F_198x G159 ((Int16.ofInt 3000).toInt32)) (fun G170 => (y158, G170)))))
theorem F_199x_e (rr : Nat → Int32 → pj_G → Int32 × pj_G) (G0 : pj_G) : F_199x rr G0 = pj_bd (F_183x G0 ((Int8.ofInt 45).toInt32)) (fun y9 G10 => cond (pj_c1 .eq y9 0) (pj_nm (F_184x G10) (fun y23 => cond (pj_c1 .eq y23 0) (pj_bd (F_186_s11x G10) (fun y29 G30 => cond (pj_c1 .lt y29 0) (pj_nm (pj_fi G30 171 19) (fun y37 => cond (pj_c1 .eq y37 (Int32.ofInt 4)) ((Int32.ofInt 0, G30)) (pj_bd (F_183x G30 ((Int8.ofInt 40).toInt32)) (fun y48 G49 => cond (pj_c1 .ne y48 0) (pj_nm (pj_fi G49 171 19) (fun y56 => pj_nm (y56 + (Int32.ofInt 1)) (fun z58 => pj_nm (pj_wv G49 171 19 (.int z58)) (fun G59 => pj_bd (rr 1 (Int32.ofInt 0) G59) (fun y64 G65 => cond (pj_c1 .eq y64 0) ((Int32.ofInt 0, G65)) (pj_bd (F_183x G65 ((Int8.ofInt 41).toInt32)) (fun y80 G81 => cond (pj_c1 .ne y80 0) (pj_nm (pj_fi G81 171 19) (fun y88 => pj_nm (y88 - (Int32.ofInt 1)) (fun z90 => pj_nm (pj_wv G81 171 19 (.int z90)) (fun G91 => (Int32.ofInt 1, G91))))) ((Int32.ofInt 0, G81))))))))) ((Int32.ofInt 0, G49)))))) (pj_nm (((Int16.ofInt 1000).toInt32) + y29) (fun z104 => pj_nm (F_198x G30 z104) (fun G110 => (Int32.ofInt 1, G110)))))) (pj_bd (F_187ex G10 (Int32.ofInt 3)) (fun y127 G128 => pj_nm (F_198x G128 y127) (fun G141 => (Int32.ofInt 1, G141)))))) (pj_bd (rr 0 0 G10) (fun y158 G159 => pj_nm (F_198x G159 ((Int16.ofInt 3000).toInt32)) (fun G170 => (y158, G170))))) := rfl
noncomputable def L_200x (rr : Nat → Int32 → pj_G → Int32 × pj_G) (G0 : pj_G) (rk : Int32) (fu : Nat) : Int32 → pj_G → Int32 × pj_G := Nat.rec (motive := fun _ => Int32 → pj_G → Int32 × pj_G) (fun _ G => (0, G)) (fun _ ih v2 G => cond (pj_c1 .eq v2 0) ((Int32.ofInt 1, G)) (cond (pj_c1 .ne rk 0) (cond (pj_c1 .ne rk (Int32.ofInt 1)) (pj_bd (F_186_s14x G) (fun y16 G17 => cond (pj_c1 .ge y16 0) (pj_nm (rk + (Int32.ofInt 1)) (fun z26 => pj_bd (rr 1 z26 G17) (fun y31 G32 => cond (pj_c1 .ne y31 0) (pj_nm (((Int16.ofInt 2000).toInt32) + y16) (fun z39 => pj_nm (z39 + (Int32.ofInt 5)) (fun z40 => pj_nm (F_198x G32 z40) (fun G46 => ih (Int32.ofInt 1) G46)))) ((Int32.ofInt 0, G32))))) ((Int32.ofInt 1, G17)))) (pj_bd (F_186_s13x G) (fun y71 G72 => cond (pj_c1 .ge y71 0) (pj_nm (rk + (Int32.ofInt 1)) (fun z81 => pj_bd (rr 1 z81 G72) (fun y86 G87 => cond (pj_c1 .ne y86 0) (pj_nm (((Int16.ofInt 2000).toInt32) + y71) (fun z94 => pj_nm (z94 + (Int32.ofInt 3)) (fun z95 => pj_nm (F_198x G87 z95) (fun G101 => ih (Int32.ofInt 1) G101)))) ((Int32.ofInt 0, G87))))) ((Int32.ofInt 1, G72))))) (pj_bd (F_186_s12x G) (fun y126 G127 => cond (pj_c1 .ge y126 0) (pj_nm (rk + (Int32.ofInt 1)) (fun z136 => pj_bd (rr 1 z136 G127) (fun y141 G142 => cond (pj_c1 .ne y141 0) (pj_nm (((Int16.ofInt 2000).toInt32) + y126) (fun z149 => pj_nm (z149 + (Int32.ofInt 0)) (fun z150 => pj_nm (F_198x G142 z150) (fun G156 => ih (Int32.ofInt 0) G156)))) ((Int32.ofInt 0, G142))))) ((Int32.ofInt 1, G127)))))) fu
theorem L_200x_s0 (rr : Nat → Int32 → pj_G → Int32 × pj_G) (G0 : pj_G) (rk : Int32) (fu : Nat) (v2 : Int32) (G : pj_G) : L_200x rr G0 rk (fu + 1) v2 G = cond (pj_c1 .eq v2 0) ((Int32.ofInt 1, G)) (cond (pj_c1 .ne rk 0) (cond (pj_c1 .ne rk (Int32.ofInt 1)) (pj_bd (F_186_s14x G) (fun y16 G17 => cond (pj_c1 .ge y16 0) (pj_nm (rk + (Int32.ofInt 1)) (fun z26 => pj_bd (rr 1 z26 G17) (fun y31 G32 => cond (pj_c1 .ne y31 0) (pj_nm (((Int16.ofInt 2000).toInt32) + y16) (fun z39 => pj_nm (z39 + (Int32.ofInt 5)) (fun z40 => pj_nm (F_198x G32 z40) (fun G46 => L_200x rr G0 rk fu (Int32.ofInt 1) G46)))) ((Int32.ofInt 0, G32))))) ((Int32.ofInt 1, G17)))) (pj_bd (F_186_s13x G) (fun y71 G72 => cond (pj_c1 .ge y71 0) (pj_nm (rk + (Int32.ofInt 1)) (fun z81 => pj_bd (rr 1 z81 G72) (fun y86 G87 => cond (pj_c1 .ne y86 0) (pj_nm (((Int16.ofInt 2000).toInt32) + y71) (fun z94 => pj_nm (z94 + (Int32.ofInt 3)) (fun z95 => pj_nm (F_198x G87 z95) (fun G101 => L_200x rr G0 rk fu (Int32.ofInt 1) G101)))) ((Int32.ofInt 0, G87))))) ((Int32.ofInt 1, G72))))) (pj_bd (F_186_s12x G) (fun y126 G127 => cond (pj_c1 .ge y126 0) (pj_nm (rk + (Int32.ofInt 1)) (fun z136 => pj_bd (rr 1 z136 G127) (fun y141 G142 => cond (pj_c1 .ne y141 0) (pj_nm (((Int16.ofInt 2000).toInt32) + y126) (fun z149 => pj_nm (z149 + (Int32.ofInt 0)) (fun z150 => pj_nm (F_198x G142 z150) (fun G156 => L_200x rr G0 rk fu (Int32.ofInt 0) G156)))) ((Int32.ofInt 0, G142))))) ((Int32.ofInt 1, G127))))) := rfl
noncomputable def F_200x (rr : Nat → Int32 → pj_G → Int32 × pj_G) (G0 : pj_G) (rk : Int32) : Int32 × pj_G := cond (pj_c1 .ne rk (Int32.ofInt 3)) (pj_nm (rk + (Int32.ofInt 1)) (fun z182 => pj_bd (rr 1 z182 G0) (fun y187 G188 => cond (pj_c1 .ne y187 0) (L_200x rr G0 rk 201 (Int32.ofInt 1) G188) ((Int32.ofInt 0, G188))))) (pj_bd (rr 0 0 G0) (fun y207 G208 => (y207, G208)))
theorem F_200x_e (rr : Nat → Int32 → pj_G → Int32 × pj_G) (G0 : pj_G) (rk : Int32) : F_200x rr G0 rk = cond (pj_c1 .ne rk (Int32.ofInt 3)) (pj_nm (rk + (Int32.ofInt 1)) (fun z182 => pj_bd (rr 1 z182 G0) (fun y187 G188 => cond (pj_c1 .ne y187 0) (L_200x rr G0 rk 201 (Int32.ofInt 1) G188) ((Int32.ofInt 0, G188))))) (pj_bd (rr 0 0 G0) (fun y207 G208 => (y207, G208))) := rfl
noncomputable def RRx (n : Nat) : Nat → Int32 → pj_G → Int32 × pj_G := Nat.rec (motive := fun _ => Nat → Int32 → pj_G → Int32 × pj_G) (fun _ _ G => (0, G)) (fun _ rr lab rk G => cond (Nat.beq lab 0) (F_199x rr G) (F_200x rr G rk)) n
theorem RRx_t (n : Nat) (rk : Int32) (G : pj_G) : RRx (n + 1) 0 rk G = F_199x (RRx n) G := rfl
theorem RRx_r (n : Nat) (rk : Int32) (G : pj_G) : RRx (n + 1) 1 rk G = F_200x (RRx n) G rk := rfl
def pj_ihx (n : Nat) : Prop := (∀ G : pj_G, pj_Inv G → (pj_fi G 171 27).toInt ≤ (pj_fi G 171 17).toInt → (pj_fi G 171 17).toInt ≤ (pj_fi G 171 18).toInt → 5 * ((pj_fi G 171 18).toInt - (pj_fi G 171 17).toInt) < (n : Int) → pj_Y (20 + n) 198 [.ref 171] G (fun v' G' => ∃ y : Int32, v' = some (.int y) ∧ pj_Inv G' ∧ pj_kpt pj_MY G G' ∧ ((0 : Int) ≤ y.toInt ∧ y.toInt ≤ 1) ∧ (∀ H, G = H → (((pj_fi H 171 17).toInt ≤ (pj_fi G' 171 17).toInt ∧ (pj_fi G' 171 17).toInt ≤ (pj_fi G' 171 18).toInt ∧ (pj_fi G' 171 27).toInt + (pj_fi H 171 17).toInt ≤ (pj_fi H 171 27).toInt + (pj_fi G' 171 17).toInt ∧ (1 ≤ y.toInt → (pj_fi G' 171 19).toInt = (pj_fi H 171 19).toInt)) ∧ pj_qp H G' ∧ (1 ≤ y.toInt → pj_qm H G' 1))) ∧ ((y, G') = RRx n 0 0 G))) ∧ (∀ (G : pj_G) (rk : Int32), pj_Inv G → (0 ≤ rk.toInt ∧ rk.toInt ≤ 3) → (pj_fi G 171 27).toInt ≤ (pj_fi G 171 17).toInt → (pj_fi G 171 17).toInt ≤ (pj_fi G 171 18).toInt → 5 * ((pj_fi G 171 18).toInt - (pj_fi G 171 17).toInt) + 4 - rk.toInt < (n : Int) → pj_Y (20 + n) 199 [.ref 171, .int rk] G (fun v' G' => ∃ y : Int32, v' = some (.int y) ∧ pj_Inv G' ∧ pj_kpt pj_MY G G' ∧ ((0 : Int) ≤ y.toInt ∧ y.toInt ≤ 1) ∧ (∀ H, G = H → (((pj_fi H 171 17).toInt ≤ (pj_fi G' 171 17).toInt ∧ (pj_fi G' 171 17).toInt ≤ (pj_fi G' 171 18).toInt ∧ (pj_fi G' 171 27).toInt + (pj_fi H 171 17).toInt ≤ (pj_fi H 171 27).toInt + (pj_fi G' 171 17).toInt ∧ (1 ≤ y.toInt → (pj_fi G' 171 19).toInt = (pj_fi H 171 19).toInt)) ∧ pj_qp H G' ∧ (1 ≤ y.toInt → pj_qm H G' 1))) ∧ ((y, G') = RRx n 1 rk G)))
theorem ct_198x (G0 : pj_G) (hI : pj_Inv G0) {n : Nat} (p0_ : pj_ihx n) (p1_ : (pj_fi G0 171 27).toInt ≤ (pj_fi G0 171 17).toInt) (p2_ : (pj_fi G0 171 17).toInt ≤ (pj_fi G0 171 18).toInt) (p3_ : 5 * ((pj_fi G0 171 18).toInt - (pj_fi G0 171 17).toInt) < (n : Int) + 1) : pj_Y (20 + n + 1) 198 [.ref 171] G0 (fun v' G' => ∃ y : Int32, v' = some (.int y) ∧ pj_Inv G' ∧ pj_kpt pj_MY G0 G' ∧ ((0 : Int) ≤ y.toInt ∧ y.toInt ≤ 1) ∧ (∀ H, G0 = H → (((pj_fi H 171 17).toInt ≤ (pj_fi G' 171 17).toInt ∧ (pj_fi G' 171 17).toInt ≤ (pj_fi G' 171 18).toInt ∧ (pj_fi G' 171 27).toInt + (pj_fi H 171 17).toInt ≤ (pj_fi H 171 27).toInt + (pj_fi G' 171 17).toInt ∧ (1 ≤ y.toInt → (pj_fi G' 171 19).toInt = (pj_fi H 171 19).toInt)) ∧ pj_qp H G' ∧ (1 ≤ y.toInt → pj_qm H G' 1))) ∧ ((y, G') = F_199x (RRx n) G0)) := by
  have c0_ : ((Int16.ofInt 1000).toInt32).toInt = 1000 := by decide
  have c1_ : ((Int16.ofInt 3000).toInt32).toInt = 3000 := by decide
  have c2_ : ((Int8.ofInt 40).toInt32).toInt = 40 := by decide
  have c3_ : ((Int8.ofInt 41).toInt32).toInt = 41 := by decide
  have c4_ : ((Int8.ofInt 45).toInt32).toInt = 45 := by decide
  have c5_ : (Int32.ofInt 0).toInt = 0 := by decide
  have c6_ : (Int32.ofInt 1).toInt = 1 := by decide
  have c7_ : (Int32.ofInt 3).toInt = 3 := by decide
  have c8_ : (Int32.ofInt 4).toInt = 4 := by decide
  refine pj_Y_X (M := pj_m198) rfl rfl (Nat.le_of_ble_eq_true rfl) ?_
  have hK : pj_kpt pj_MY G0 G0 := pj_kpt_r _ _
  show pj_X _ _ G0 0 [(0, .ref 171)] [] _
  rw [F_199x_e]
  obtain ⟨y1, hy1⟩ : ∃ z : Int32, z = pj_fi G0 171 17 := ⟨_, rfl⟩
  have ey1 : (pj_fi G0 171 17).toInt = y1.toInt := by rw [hy1]
  have ry1 : (0 : Int) ≤ y1.toInt ∧ y1.toInt ≤ 80 := by rw [hy1]; exact hI.2.1 171 17 (0, 80) rfl
  obtain ⟨y2, hy2⟩ : ∃ z : Int32, z = pj_fi G0 171 18 := ⟨_, rfl⟩
  have ey2 : (pj_fi G0 171 18).toInt = y2.toInt := by rw [hy2]
  have ry2 : (0 : Int) ≤ y2.toInt ∧ y2.toInt ≤ 80 := by rw [hy2]; exact hI.2.1 171 18 (0, 80) rfl
  obtain ⟨y3, hy3⟩ : ∃ z : Int32, z = pj_fi G0 171 27 := ⟨_, rfl⟩
  have ey3 : (pj_fi G0 171 27).toInt = y3.toInt := by rw [hy3]
  have ry3 : (0 : Int) ≤ y3.toInt ∧ y3.toInt ≤ 80 := by rw [hy3]; exact hI.2.1 171 27 (0, 80) rfl
  obtain ⟨y4, hy4⟩ : ∃ z : Int32, z = pj_fi G0 171 19 := ⟨_, rfl⟩
  have ey4 : (pj_fi G0 171 19).toInt = y4.toInt := by rw [hy4]
  have ry4 : (0 : Int) ≤ y4.toInt ∧ y4.toInt ≤ 4 := by rw [hy4]; exact hI.2.1 171 19 (0, 4) rfl
  refine pj_X_of (fun r h => pj_R_to (G0, 3, [(0, .ref 171)], [.int ((Int8.ofInt 45).toInt32), .ref 171], 0, 0) 3 3 (fun _ => rfl) h) ?_
  have q5 : (pj_fi G0 171 17).toInt = y1.toInt := by rw [show pj_fi G0 171 17 = y1 from hy1.symm]
  have q6 : (pj_fi G0 171 18).toInt = y2.toInt := by rw [show pj_fi G0 171 18 = y2 from hy2.symm]
  have q7 : (pj_fi G0 171 27).toInt = y3.toInt := by rw [show pj_fi G0 171 27 = y3 from hy3.symm]
  have q8 : (pj_fi G0 171 19).toInt = y4.toInt := by rw [show pj_fi G0 171 19 = y4 from hy4.symm]
  refine pj_X_ca (vs := [.ref 171, .int ((Int8.ofInt 45).toInt32)]) rfl (fun _ => rfl) ⟨Nat.le_of_ble_eq_true rfl, Nat.le_of_ble_eq_true rfl, pj_T_rcv hI rfl⟩ ⟨rfl, rfl⟩ (pj_Y_up (by omega) (ct_182x G0 hI ((Int8.ofInt 45).toInt32) ⟨by omega, by omega⟩)) ?_
  rintro _ G10 ⟨y9, rfl, iG10, jG10, ry9, ey9, fy9⟩
  replace ey9 := ey9 _ rfl
  rw [← fy9, pj_bd_e]
  have kG10 : pj_kpt pj_MY G0 G10 := pj_kpt_t hK (pj_kpt_s jG10 rfl)
  have q11 : (pj_fi G10 171 18).toInt = (pj_fi G0 171 18).toInt := by rw [jG10.1 (171, 18) (by decide)]
  have q12 : (pj_fi G10 171 27).toInt = (pj_fi G0 171 27).toInt := by rw [jG10.1 (171, 27) (by decide)]
  have q13 : (pj_fi G10 171 19).toInt = (pj_fi G0 171 19).toInt := by rw [jG10.1 (171, 19) (by decide)]
  obtain ⟨y14, hy14⟩ : ∃ z : Int32, z = pj_fi G10 171 17 := ⟨_, rfl⟩
  have ey14 : (pj_fi G10 171 17).toInt = y14.toInt := by rw [hy14]
  have ry14 : (0 : Int) ≤ y14.toInt ∧ y14.toInt ≤ 80 := by rw [hy14]; exact iG10.2.1 171 17 (0, 80) rfl
  obtain ⟨y15, hy15⟩ : ∃ z : Int32, z = pj_fi G10 171 18 := ⟨_, rfl⟩
  have ey15 : (pj_fi G10 171 18).toInt = y15.toInt := by rw [hy15]
  have ry15 : (0 : Int) ≤ y15.toInt ∧ y15.toInt ≤ 80 := by rw [hy15]; exact iG10.2.1 171 18 (0, 80) rfl
  obtain ⟨y16, hy16⟩ : ∃ z : Int32, z = pj_fi G10 171 27 := ⟨_, rfl⟩
  have ey16 : (pj_fi G10 171 27).toInt = y16.toInt := by rw [hy16]
  have ry16 : (0 : Int) ≤ y16.toInt ∧ y16.toInt ≤ 80 := by rw [hy16]; exact iG10.2.1 171 27 (0, 80) rfl
  obtain ⟨y17, hy17⟩ : ∃ z : Int32, z = pj_fi G10 171 19 := ⟨_, rfl⟩
  have ey17 : (pj_fi G10 171 19).toInt = y17.toInt := by rw [hy17]
  have ry17 : (0 : Int) ≤ y17.toInt ∧ y17.toInt ≤ 4 := by rw [hy17]; exact iG10.2.1 171 19 (0, 4) rfl
  show pj_X _ _ G10 6 [(0, .ref 171)] [.int y9] _
  cases b18 : pj_c1 .eq y9 0 with
  | true =>
    rw [pj_cT]
    have ub18 := pj_u0_eqT b18
    refine pj_X_of (fun r h => pj_R_ifT 23 rfl rfl b18 h) ?_
    refine pj_X_of (fun r h => pj_R_to (G10, 24, [(0, .ref 171)], [.ref 171], 0, 0) 24 2 (fun _ => rfl) h) ?_
    have q19 : (pj_fi G10 171 17).toInt = y14.toInt := by rw [show pj_fi G10 171 17 = y14 from hy14.symm]
    have q20 : (pj_fi G10 171 18).toInt = y15.toInt := by rw [show pj_fi G10 171 18 = y15 from hy15.symm]
    have q21 : (pj_fi G10 171 27).toInt = y16.toInt := by rw [show pj_fi G10 171 27 = y16 from hy16.symm]
    have q22 : (pj_fi G10 171 19).toInt = y17.toInt := by rw [show pj_fi G10 171 19 = y17 from hy17.symm]
    refine pj_X_ca (vs := [.ref 171]) rfl (fun _ => rfl) ⟨Nat.le_of_ble_eq_true rfl, Nat.le_of_ble_eq_true rfl, pj_T_rcv iG10 rfl⟩ ⟨rfl, rfl⟩ (pj_Y_up (by omega) (ct_183x G10 iG10)) ?_
    rintro _ _ ⟨y23, rfl, rfl, ry23, ey23, fy23⟩
    replace ey23 := ey23 _ rfl
    rw [← fy23, pj_nm_e]
    show pj_X _ _ G10 27 [(0, .ref 171)] [.int y23] _
    cases b24 : pj_c1 .eq y23 0 with
    | true =>
      rw [pj_cT]
      have ub24 := pj_u0_eqT b24
      refine pj_X_of (fun r h => pj_R_ifT 41 rfl rfl b24 h) ?_
      refine pj_X_of (fun r h => pj_R_to (G10, 44, [(0, .ref 171)], [.retAddr 11, .ref 171], 0, 0) 44 3 (fun _ => rfl) h) ?_
      have q25 : (pj_fi G10 171 17).toInt = y14.toInt := by rw [show pj_fi G10 171 17 = y14 from hy14.symm]
      have q26 : (pj_fi G10 171 18).toInt = y15.toInt := by rw [show pj_fi G10 171 18 = y15 from hy15.symm]
      have q27 : (pj_fi G10 171 27).toInt = y16.toInt := by rw [show pj_fi G10 171 27 = y16 from hy16.symm]
      have q28 : (pj_fi G10 171 19).toInt = y17.toInt := by rw [show pj_fi G10 171 19 = y17 from hy17.symm]
      refine pj_X_ca (vs := [.ref 171, .retAddr 11]) rfl (fun _ => rfl) ⟨Nat.le_of_ble_eq_true rfl, Nat.le_of_ble_eq_true rfl, pj_T_rcv iG10 rfl⟩ ⟨rfl, rfl⟩ (pj_Y_up (by omega) (ct_185_s11x G10 iG10)) ?_
      rintro _ G30 ⟨y29, rfl, iG30, jG30, ry29, ey29, fy29⟩
      replace ey29 := ey29 _ rfl
      rw [← fy29, pj_bd_e]
      have kG30 : pj_kpt pj_MY G0 G30 := pj_kpt_t kG10 (pj_kpt_s jG30 rfl)
      have q31 : (pj_fi G30 171 18).toInt = (pj_fi G10 171 18).toInt := by rw [jG30.1 (171, 18) (by decide)]
      have q32 : (pj_fi G30 171 27).toInt = (pj_fi G10 171 27).toInt := by rw [jG30.1 (171, 27) (by decide)]
      have q33 : (pj_fi G30 171 19).toInt = (pj_fi G10 171 19).toInt := by rw [jG30.1 (171, 19) (by decide)]
      obtain ⟨y34, hy34⟩ : ∃ z : Int32, z = pj_fi G30 171 17 := ⟨_, rfl⟩
      have ey34 : (pj_fi G30 171 17).toInt = y34.toInt := by rw [hy34]
      have ry34 : (0 : Int) ≤ y34.toInt ∧ y34.toInt ≤ 80 := by rw [hy34]; exact iG30.2.1 171 17 (0, 80) rfl
      obtain ⟨y35, hy35⟩ : ∃ z : Int32, z = pj_fi G30 171 18 := ⟨_, rfl⟩
      have ey35 : (pj_fi G30 171 18).toInt = y35.toInt := by rw [hy35]
      have ry35 : (0 : Int) ≤ y35.toInt ∧ y35.toInt ≤ 80 := by rw [hy35]; exact iG30.2.1 171 18 (0, 80) rfl
      obtain ⟨y36, hy36⟩ : ∃ z : Int32, z = pj_fi G30 171 27 := ⟨_, rfl⟩
      have ey36 : (pj_fi G30 171 27).toInt = y36.toInt := by rw [hy36]
      have ry36 : (0 : Int) ≤ y36.toInt ∧ y36.toInt ≤ 80 := by rw [hy36]; exact iG30.2.1 171 27 (0, 80) rfl
      obtain ⟨y37, hy37⟩ : ∃ z : Int32, z = pj_fi G30 171 19 := ⟨_, rfl⟩
      have ey37 : (pj_fi G30 171 19).toInt = y37.toInt := by rw [hy37]
      have ry37 : (0 : Int) ≤ y37.toInt ∧ y37.toInt ≤ 4 := by rw [hy37]; exact iG30.2.1 171 19 (0, 4) rfl
      show pj_X _ _ G30 47 [(0, .ref 171)] [.int y29] _
      refine pj_X_of (fun r h => pj_R_to (G30, 49, [(1, .int y29), (0, .ref 171)], [.int y29], 0, 0) 49 3 (fun _ => rfl) h) ?_
      cases b38 : pj_c1 .lt y29 0 with
      | true =>
        rw [pj_cT]
        have ub38 := pj_u0_ltT b38
        refine pj_X_of (fun r h => pj_R_ifT 63 rfl rfl b38 h) ?_
        refine pj_X_of (fun r h => pj_R_to (G30, 64, [(1, .int y29), (0, .ref 171)], [.ref 171], 0, 0) 64 2 (fun _ => rfl) h) ?_
        refine pj_X_of (fun r h => pj_T_gi iG30 rfl rfl h) ?_
        show pj_X _ _ G30 67 [(1, .int y29), (0, .ref 171)] [.int (pj_fi G30 171 19)] _
        rw [← hy37, pj_nm_e]
        refine pj_X_of (fun r h => pj_R_to (G30, 68, [(1, .int y29), (0, .ref 171)], [.int (Int32.ofInt 4), .int y37], 0, 0) 68 2 (fun _ => rfl) h) ?_
        cases b39 : pj_c1 .eq y37 (Int32.ofInt 4) with
        | true =>
          rw [pj_cT]
          have ub39 := pj_u_eqT b39
          refine pj_X_of (fun r h => pj_R_icT 80 rfl rfl b39 h) ?_
          refine pj_X_of (fun r h => pj_R_to (G30, 81, [(1, .int y29), (0, .ref 171)], [.int (Int32.ofInt 0)], 0, 0) 81 2 (fun _ => rfl) h) ?_
          have q40 : (pj_fi G30 171 17).toInt = y34.toInt := by rw [show pj_fi G30 171 17 = y34 from hy34.symm]
          have q41 : (pj_fi G30 171 18).toInt = y35.toInt := by rw [show pj_fi G30 171 18 = y35 from hy35.symm]
          have q42 : (pj_fi G30 171 27).toInt = y36.toInt := by rw [show pj_fi G30 171 27 = y36 from hy36.symm]
          have q43 : (pj_fi G30 171 19).toInt = y37.toInt := by rw [show pj_fi G30 171 19 = y37 from hy37.symm]
          exact pj_X_rt rfl rfl ⟨_, rfl, iG30, kG30, ⟨by omega, by omega⟩, (fun H hH => by subst hH; exact (⟨by omega, (pj_qp_k (pj_qp_k (pj_qp_r G0) (jG10.1 (171, 27) (by decide)) (fun j => jG10.2.2 183 (by decide) j)) (jG30.1 (171, 27) (by decide)) (fun j => jG30.2.2 183 (by decide) j)), (fun q => absurd q (by omega))⟩)), rfl⟩
        | false =>
          rw [pj_cF]
          have ub39 := pj_u_eqF b39
          refine pj_X_of (fun r h => pj_R_icF rfl b39 h) ?_
          refine pj_X_of (fun r h => pj_R_to (G30, 74, [(1, .int y29), (0, .ref 171)], [.int ((Int8.ofInt 40).toInt32), .ref 171], 0, 0) 74 3 (fun _ => rfl) h) ?_
          have q44 : (pj_fi G30 171 17).toInt = y34.toInt := by rw [show pj_fi G30 171 17 = y34 from hy34.symm]
          have q45 : (pj_fi G30 171 18).toInt = y35.toInt := by rw [show pj_fi G30 171 18 = y35 from hy35.symm]
          have q46 : (pj_fi G30 171 27).toInt = y36.toInt := by rw [show pj_fi G30 171 27 = y36 from hy36.symm]
          have q47 : (pj_fi G30 171 19).toInt = y37.toInt := by rw [show pj_fi G30 171 19 = y37 from hy37.symm]
          refine pj_X_ca (vs := [.ref 171, .int ((Int8.ofInt 40).toInt32)]) rfl (fun _ => rfl) ⟨Nat.le_of_ble_eq_true rfl, Nat.le_of_ble_eq_true rfl, pj_T_rcv iG30 rfl⟩ ⟨rfl, rfl⟩ (pj_Y_up (by omega) (ct_182x G30 iG30 ((Int8.ofInt 40).toInt32) ⟨by omega, by omega⟩)) ?_
          rintro _ G49 ⟨y48, rfl, iG49, jG49, ry48, ey48, fy48⟩
          replace ey48 := ey48 _ rfl
          rw [← fy48, pj_bd_e]
          have kG49 : pj_kpt pj_MY G0 G49 := pj_kpt_t kG30 (pj_kpt_s jG49 rfl)
          have q50 : (pj_fi G49 171 18).toInt = (pj_fi G30 171 18).toInt := by rw [jG49.1 (171, 18) (by decide)]
          have q51 : (pj_fi G49 171 27).toInt = (pj_fi G30 171 27).toInt := by rw [jG49.1 (171, 27) (by decide)]
          have q52 : (pj_fi G49 171 19).toInt = (pj_fi G30 171 19).toInt := by rw [jG49.1 (171, 19) (by decide)]
          obtain ⟨y53, hy53⟩ : ∃ z : Int32, z = pj_fi G49 171 17 := ⟨_, rfl⟩
          have ey53 : (pj_fi G49 171 17).toInt = y53.toInt := by rw [hy53]
          have ry53 : (0 : Int) ≤ y53.toInt ∧ y53.toInt ≤ 80 := by rw [hy53]; exact iG49.2.1 171 17 (0, 80) rfl
          obtain ⟨y54, hy54⟩ : ∃ z : Int32, z = pj_fi G49 171 18 := ⟨_, rfl⟩
          have ey54 : (pj_fi G49 171 18).toInt = y54.toInt := by rw [hy54]
          have ry54 : (0 : Int) ≤ y54.toInt ∧ y54.toInt ≤ 80 := by rw [hy54]; exact iG49.2.1 171 18 (0, 80) rfl
          obtain ⟨y55, hy55⟩ : ∃ z : Int32, z = pj_fi G49 171 27 := ⟨_, rfl⟩
          have ey55 : (pj_fi G49 171 27).toInt = y55.toInt := by rw [hy55]
          have ry55 : (0 : Int) ≤ y55.toInt ∧ y55.toInt ≤ 80 := by rw [hy55]; exact iG49.2.1 171 27 (0, 80) rfl
          obtain ⟨y56, hy56⟩ : ∃ z : Int32, z = pj_fi G49 171 19 := ⟨_, rfl⟩
          have ey56 : (pj_fi G49 171 19).toInt = y56.toInt := by rw [hy56]
          have ry56 : (0 : Int) ≤ y56.toInt ∧ y56.toInt ≤ 4 := by rw [hy56]; exact iG49.2.1 171 19 (0, 4) rfl
          show pj_X _ _ G49 77 [(1, .int y29), (0, .ref 171)] [.int y48] _
          cases b57 : pj_c1 .ne y48 0 with
          | true =>
            rw [pj_cT]
            have ub57 := pj_u0_neT b57
            refine pj_X_of (fun r h => pj_R_ifT 82 rfl rfl b57 h) ?_
            refine pj_X_of (fun r h => pj_R_to (G49, 84, [(1, .int y29), (0, .ref 171)], [.ref 171, .ref 171], 0, 0) 84 3 (fun _ => rfl) h) ?_
            refine pj_X_of (fun r h => pj_T_gi iG49 rfl rfl h) ?_
            show pj_X _ _ G49 87 [(1, .int y29), (0, .ref 171)] [.int (pj_fi G49 171 19), .ref 171] _
            rw [← hy56, pj_nm_e]
            refine pj_X_of (fun r h => pj_R_to (G49, 89, [(1, .int y29), (0, .ref 171)], [.int (y56 + (Int32.ofInt 1)), .ref 171], 0, 0) 89 3 (fun _ => rfl) h) ?_
            obtain ⟨z58, hz58⟩ : ∃ z : Int32, z = y56 + (Int32.ofInt 1) := ⟨_, rfl⟩
            refine pj_X_eqi hz58.symm ?_
            rw [← hz58, pj_nm_e]
            have fz58_0 : z58.toInt = y56.toInt + (Int32.ofInt 1).toInt := by rw [hz58]; exact pj_addI (by have := pj_i32 y56; have := pj_i32 (Int32.ofInt 1); omega) (by have := pj_i32 y56; have := pj_i32 (Int32.ofInt 1); omega)
            refine pj_X_of (fun r h => pj_T_pf iG49 rfl rfl rfl h) ?_
            show pj_X _ _ (pj_wv G49 171 19 (.int z58)) 92 [(1, .int y29), (0, .ref 171)] [] _
            obtain ⟨G59, hG59⟩ : ∃ H, H = pj_wv G49 171 19 (.int z58) := ⟨_, rfl⟩
            have iG59 : pj_Inv G59 := by rw [hG59]; exact pj_Inv_wi iG49 (ci := 12) rfl (fun q hq => by cases hq; exact ⟨by show (0 : Int) ≤ _; omega, by show _ ≤ (4 : Int); omega⟩)
            have kG59 : pj_kpt pj_MY G0 G59 := by rw [hG59]; exact pj_kpt_v kG49 rfl
            rw [← hG59]
            rw [pj_nm_e]
            refine pj_X_of (fun r h => pj_R_to (G59, 94, [(1, .int y29), (0, .ref 171)], [.int (Int32.ofInt 0), .ref 171], 0, 0) 94 3 (fun _ => rfl) h) ?_
            have q60 : (pj_fi G59 171 17).toInt = y53.toInt := by rw [show pj_fi G59 171 17 = y53 from by rw [hG59, pj_fi_wv_ne _ _ _ _ _ _ (by decide)]; exact hy53.symm]
            have q61 : (pj_fi G59 171 18).toInt = y54.toInt := by rw [show pj_fi G59 171 18 = y54 from by rw [hG59, pj_fi_wv_ne _ _ _ _ _ _ (by decide)]; exact hy54.symm]
            have q62 : (pj_fi G59 171 27).toInt = y55.toInt := by rw [show pj_fi G59 171 27 = y55 from by rw [hG59, pj_fi_wv_ne _ _ _ _ _ _ (by decide)]; exact hy55.symm]
            have q63 : (pj_fi G59 171 19).toInt = z58.toInt := by rw [show pj_fi G59 171 19 = z58 from by rw [hG59]; exact pj_fi_wi iG49.1 (ci := 12) rfl _]
            refine pj_X_ca (vs := [.ref 171, .int (Int32.ofInt 0)]) rfl (fun _ => rfl) ⟨Nat.le_of_ble_eq_true rfl, Nat.le_of_ble_eq_true rfl, pj_T_rcv iG59 rfl⟩ ⟨rfl, rfl⟩ (pj_Y_up (by omega) (p0_.2 G59 (Int32.ofInt 0) iG59 ⟨by omega, by omega⟩ (by omega) (by omega) (by omega))) ?_
            rintro _ G65 ⟨y64, rfl, iG65, jG65, ry64, ey64, fy64⟩
            replace ey64 := ey64 _ rfl
            rw [← fy64, pj_bd_e]
            have kG65 : pj_kpt pj_MY G0 G65 := pj_kpt_t kG59 (pj_kpt_s jG65 rfl)
            have q66 : (pj_fi G65 171 18).toInt = (pj_fi G59 171 18).toInt := by rw [jG65.1 (171, 18) (by decide)]
            obtain ⟨y67, hy67⟩ : ∃ z : Int32, z = pj_fi G65 171 17 := ⟨_, rfl⟩
            have ey67 : (pj_fi G65 171 17).toInt = y67.toInt := by rw [hy67]
            have ry67 : (0 : Int) ≤ y67.toInt ∧ y67.toInt ≤ 80 := by rw [hy67]; exact iG65.2.1 171 17 (0, 80) rfl
            obtain ⟨y68, hy68⟩ : ∃ z : Int32, z = pj_fi G65 171 18 := ⟨_, rfl⟩
            have ey68 : (pj_fi G65 171 18).toInt = y68.toInt := by rw [hy68]
            have ry68 : (0 : Int) ≤ y68.toInt ∧ y68.toInt ≤ 80 := by rw [hy68]; exact iG65.2.1 171 18 (0, 80) rfl
            obtain ⟨y69, hy69⟩ : ∃ z : Int32, z = pj_fi G65 171 27 := ⟨_, rfl⟩
            have ey69 : (pj_fi G65 171 27).toInt = y69.toInt := by rw [hy69]
            have ry69 : (0 : Int) ≤ y69.toInt ∧ y69.toInt ≤ 80 := by rw [hy69]; exact iG65.2.1 171 27 (0, 80) rfl
            obtain ⟨y70, hy70⟩ : ∃ z : Int32, z = pj_fi G65 171 19 := ⟨_, rfl⟩
            have ey70 : (pj_fi G65 171 19).toInt = y70.toInt := by rw [hy70]
            have ry70 : (0 : Int) ≤ y70.toInt ∧ y70.toInt ≤ 4 := by rw [hy70]; exact iG65.2.1 171 19 (0, 4) rfl
            show pj_X _ _ G65 97 [(1, .int y29), (0, .ref 171)] [.int y64] _
            cases b71 : pj_c1 .eq y64 0 with
            | true =>
              rw [pj_cT]
              have ub71 := pj_u0_eqT b71
              refine pj_X_of (fun r h => pj_R_ifT 109 rfl rfl b71 h) ?_
              refine pj_X_of (fun r h => pj_R_to (G65, 110, [(1, .int y29), (0, .ref 171)], [.int (Int32.ofInt 0)], 0, 0) 110 2 (fun _ => rfl) h) ?_
              have q72 : (pj_fi G65 171 17).toInt = y67.toInt := by rw [show pj_fi G65 171 17 = y67 from hy67.symm]
              have q73 : (pj_fi G65 171 18).toInt = y68.toInt := by rw [show pj_fi G65 171 18 = y68 from hy68.symm]
              have q74 : (pj_fi G65 171 27).toInt = y69.toInt := by rw [show pj_fi G65 171 27 = y69 from hy69.symm]
              have q75 : (pj_fi G65 171 19).toInt = y70.toInt := by rw [show pj_fi G65 171 19 = y70 from hy70.symm]
              exact pj_X_rt rfl rfl ⟨_, rfl, iG65, kG65, ⟨by omega, by omega⟩, (fun H hH => by subst hH; exact (⟨by omega, (pj_qp_t (pj_qp_k (pj_qp_k (pj_qp_k (pj_qp_k (pj_qp_r G0) (jG10.1 (171, 27) (by decide)) (fun j => jG10.2.2 183 (by decide) j)) (jG30.1 (171, 27) (by decide)) (fun j => jG30.2.2 183 (by decide) j)) (jG49.1 (171, 27) (by decide)) (fun j => jG49.2.2 183 (by decide) j)) (by rw [hG59, pj_fi_wv_ne _ _ _ _ _ _ (by decide)]) (fun j => by rw [hG59, pj_ai_wv])) ey64.2.1), (fun q => absurd q (by omega))⟩)), rfl⟩
            | false =>
              rw [pj_cF]
              have ub71 := pj_u0_eqF b71
              refine pj_X_of (fun r h => pj_R_ifF rfl b71 h) ?_
              refine pj_X_of (fun r h => pj_R_to (G65, 103, [(1, .int y29), (0, .ref 171)], [.int ((Int8.ofInt 41).toInt32), .ref 171], 0, 0) 103 3 (fun _ => rfl) h) ?_
              have q76 : (pj_fi G65 171 17).toInt = y67.toInt := by rw [show pj_fi G65 171 17 = y67 from hy67.symm]
              have q77 : (pj_fi G65 171 18).toInt = y68.toInt := by rw [show pj_fi G65 171 18 = y68 from hy68.symm]
              have q78 : (pj_fi G65 171 27).toInt = y69.toInt := by rw [show pj_fi G65 171 27 = y69 from hy69.symm]
              have q79 : (pj_fi G65 171 19).toInt = y70.toInt := by rw [show pj_fi G65 171 19 = y70 from hy70.symm]
              refine pj_X_ca (vs := [.ref 171, .int ((Int8.ofInt 41).toInt32)]) rfl (fun _ => rfl) ⟨Nat.le_of_ble_eq_true rfl, Nat.le_of_ble_eq_true rfl, pj_T_rcv iG65 rfl⟩ ⟨rfl, rfl⟩ (pj_Y_up (by omega) (ct_182x G65 iG65 ((Int8.ofInt 41).toInt32) ⟨by omega, by omega⟩)) ?_
              rintro _ G81 ⟨y80, rfl, iG81, jG81, ry80, ey80, fy80⟩
              replace ey80 := ey80 _ rfl
              rw [← fy80, pj_bd_e]
              have kG81 : pj_kpt pj_MY G0 G81 := pj_kpt_t kG65 (pj_kpt_s jG81 rfl)
              have q82 : (pj_fi G81 171 18).toInt = (pj_fi G65 171 18).toInt := by rw [jG81.1 (171, 18) (by decide)]
              have q83 : (pj_fi G81 171 27).toInt = (pj_fi G65 171 27).toInt := by rw [jG81.1 (171, 27) (by decide)]
              have q84 : (pj_fi G81 171 19).toInt = (pj_fi G65 171 19).toInt := by rw [jG81.1 (171, 19) (by decide)]
              obtain ⟨y85, hy85⟩ : ∃ z : Int32, z = pj_fi G81 171 17 := ⟨_, rfl⟩
              have ey85 : (pj_fi G81 171 17).toInt = y85.toInt := by rw [hy85]
              have ry85 : (0 : Int) ≤ y85.toInt ∧ y85.toInt ≤ 80 := by rw [hy85]; exact iG81.2.1 171 17 (0, 80) rfl
              obtain ⟨y86, hy86⟩ : ∃ z : Int32, z = pj_fi G81 171 18 := ⟨_, rfl⟩
              have ey86 : (pj_fi G81 171 18).toInt = y86.toInt := by rw [hy86]
              have ry86 : (0 : Int) ≤ y86.toInt ∧ y86.toInt ≤ 80 := by rw [hy86]; exact iG81.2.1 171 18 (0, 80) rfl
              obtain ⟨y87, hy87⟩ : ∃ z : Int32, z = pj_fi G81 171 27 := ⟨_, rfl⟩
              have ey87 : (pj_fi G81 171 27).toInt = y87.toInt := by rw [hy87]
              have ry87 : (0 : Int) ≤ y87.toInt ∧ y87.toInt ≤ 80 := by rw [hy87]; exact iG81.2.1 171 27 (0, 80) rfl
              obtain ⟨y88, hy88⟩ : ∃ z : Int32, z = pj_fi G81 171 19 := ⟨_, rfl⟩
              have ey88 : (pj_fi G81 171 19).toInt = y88.toInt := by rw [hy88]
              have ry88 : (0 : Int) ≤ y88.toInt ∧ y88.toInt ≤ 4 := by rw [hy88]; exact iG81.2.1 171 19 (0, 4) rfl
              show pj_X _ _ G81 106 [(1, .int y29), (0, .ref 171)] [.int y80] _
              cases b89 : pj_c1 .ne y80 0 with
              | true =>
                rw [pj_cT]
                have ub89 := pj_u0_neT b89
                refine pj_X_of (fun r h => pj_R_ifT 111 rfl rfl b89 h) ?_
                refine pj_X_of (fun r h => pj_R_to (G81, 113, [(1, .int y29), (0, .ref 171)], [.ref 171, .ref 171], 0, 0) 113 3 (fun _ => rfl) h) ?_
                refine pj_X_of (fun r h => pj_T_gi iG81 rfl rfl h) ?_
                show pj_X _ _ G81 116 [(1, .int y29), (0, .ref 171)] [.int (pj_fi G81 171 19), .ref 171] _
                rw [← hy88, pj_nm_e]
                refine pj_X_of (fun r h => pj_R_to (G81, 118, [(1, .int y29), (0, .ref 171)], [.int (y88 - (Int32.ofInt 1)), .ref 171], 0, 0) 118 3 (fun _ => rfl) h) ?_
                obtain ⟨z90, hz90⟩ : ∃ z : Int32, z = y88 - (Int32.ofInt 1) := ⟨_, rfl⟩
                refine pj_X_eqi hz90.symm ?_
                rw [← hz90, pj_nm_e]
                have fz90_0 : z90.toInt = y88.toInt - (Int32.ofInt 1).toInt := by rw [hz90]; exact pj_subI (by have := pj_i32 y88; have := pj_i32 (Int32.ofInt 1); omega) (by have := pj_i32 y88; have := pj_i32 (Int32.ofInt 1); omega)
                refine pj_X_of (fun r h => pj_T_pf iG81 rfl rfl rfl h) ?_
                show pj_X _ _ (pj_wv G81 171 19 (.int z90)) 121 [(1, .int y29), (0, .ref 171)] [] _
                obtain ⟨G91, hG91⟩ : ∃ H, H = pj_wv G81 171 19 (.int z90) := ⟨_, rfl⟩
                have iG91 : pj_Inv G91 := by rw [hG91]; exact pj_Inv_wi iG81 (ci := 12) rfl (fun q hq => by cases hq; exact ⟨by show (0 : Int) ≤ _; omega, by show _ ≤ (4 : Int); omega⟩)
                have kG91 : pj_kpt pj_MY G0 G91 := by rw [hG91]; exact pj_kpt_v kG81 rfl
                rw [← hG91]
                rw [pj_nm_e]
                refine pj_X_of (fun r h => pj_R_to (G91, 122, [(1, .int y29), (0, .ref 171)], [.int (Int32.ofInt 1)], 0, 0) 122 2 (fun _ => rfl) h) ?_
                have q92 : (pj_fi G91 171 17).toInt = y85.toInt := by rw [show pj_fi G91 171 17 = y85 from by rw [hG91, pj_fi_wv_ne _ _ _ _ _ _ (by decide)]; exact hy85.symm]
                have q93 : (pj_fi G91 171 18).toInt = y86.toInt := by rw [show pj_fi G91 171 18 = y86 from by rw [hG91, pj_fi_wv_ne _ _ _ _ _ _ (by decide)]; exact hy86.symm]
                have q94 : (pj_fi G91 171 27).toInt = y87.toInt := by rw [show pj_fi G91 171 27 = y87 from by rw [hG91, pj_fi_wv_ne _ _ _ _ _ _ (by decide)]; exact hy87.symm]
                have q95 : (pj_fi G91 171 19).toInt = z90.toInt := by rw [show pj_fi G91 171 19 = z90 from by rw [hG91]; exact pj_fi_wi iG81.1 (ci := 12) rfl _]
                exact pj_X_rt rfl rfl ⟨_, rfl, iG91, kG91, ⟨by omega, by omega⟩, (fun H hH => by subst hH; exact (⟨by omega, (pj_qp_k (pj_qp_k (pj_qp_t (pj_qp_k (pj_qp_k (pj_qp_k (pj_qp_k (pj_qp_r G0) (jG10.1 (171, 27) (by decide)) (fun j => jG10.2.2 183 (by decide) j)) (jG30.1 (171, 27) (by decide)) (fun j => jG30.2.2 183 (by decide) j)) (jG49.1 (171, 27) (by decide)) (fun j => jG49.2.2 183 (by decide) j)) (by rw [hG59, pj_fi_wv_ne _ _ _ _ _ _ (by decide)]) (fun j => by rw [hG59, pj_ai_wv])) ey64.2.1) (jG81.1 (171, 27) (by decide)) (fun j => jG81.2.2 183 (by decide) j)) (by rw [hG91, pj_fi_wv_ne _ _ _ _ _ _ (by decide)]) (fun j => by rw [hG91, pj_ai_wv])), (fun q => (pj_qm_k (pj_qm_k (show pj_qm G0 G65 1 from pj_qm_t (by omega) (pj_qm_k (pj_qm_k (pj_qm_k (pj_qm_k (pj_qm_r G0) (jG10.1 (171, 27) (by decide)) (fun j => jG10.2.2 183 (by decide) j)) (jG30.1 (171, 27) (by decide)) (fun j => jG30.2.2 183 (by decide) j)) (jG49.1 (171, 27) (by decide)) (fun j => jG49.2.2 183 (by decide) j)) (by rw [hG59, pj_fi_wv_ne _ _ _ _ _ _ (by decide)]) (fun j => by rw [hG59, pj_ai_wv])) (ey64.2.2 (by omega))) (jG81.1 (171, 27) (by decide)) (fun j => jG81.2.2 183 (by decide) j)) (by rw [hG91, pj_fi_wv_ne _ _ _ _ _ _ (by decide)]) (fun j => by rw [hG91, pj_ai_wv])))⟩)), rfl⟩
              | false =>
                rw [pj_cF]
                have ub89 := pj_u0_neF b89
                refine pj_X_of (fun r h => pj_R_ifF rfl b89 h) ?_
                refine pj_X_of (fun r h => pj_R_to (G81, 110, [(1, .int y29), (0, .ref 171)], [.int (Int32.ofInt 0)], 0, 0) 110 2 (fun _ => rfl) h) ?_
                have q96 : (pj_fi G81 171 17).toInt = y85.toInt := by rw [show pj_fi G81 171 17 = y85 from hy85.symm]
                have q97 : (pj_fi G81 171 18).toInt = y86.toInt := by rw [show pj_fi G81 171 18 = y86 from hy86.symm]
                have q98 : (pj_fi G81 171 27).toInt = y87.toInt := by rw [show pj_fi G81 171 27 = y87 from hy87.symm]
                have q99 : (pj_fi G81 171 19).toInt = y88.toInt := by rw [show pj_fi G81 171 19 = y88 from hy88.symm]
                exact pj_X_rt rfl rfl ⟨_, rfl, iG81, kG81, ⟨by omega, by omega⟩, (fun H hH => by subst hH; exact (⟨by omega, (pj_qp_k (pj_qp_t (pj_qp_k (pj_qp_k (pj_qp_k (pj_qp_k (pj_qp_r G0) (jG10.1 (171, 27) (by decide)) (fun j => jG10.2.2 183 (by decide) j)) (jG30.1 (171, 27) (by decide)) (fun j => jG30.2.2 183 (by decide) j)) (jG49.1 (171, 27) (by decide)) (fun j => jG49.2.2 183 (by decide) j)) (by rw [hG59, pj_fi_wv_ne _ _ _ _ _ _ (by decide)]) (fun j => by rw [hG59, pj_ai_wv])) ey64.2.1) (jG81.1 (171, 27) (by decide)) (fun j => jG81.2.2 183 (by decide) j)), (fun q => absurd q (by omega))⟩)), rfl⟩
          | false =>
            rw [pj_cF]
            have ub57 := pj_u0_neF b57
            refine pj_X_of (fun r h => pj_R_ifF rfl b57 h) ?_
            refine pj_X_of (fun r h => pj_R_to (G49, 81, [(1, .int y29), (0, .ref 171)], [.int (Int32.ofInt 0)], 0, 0) 81 2 (fun _ => rfl) h) ?_
            have q100 : (pj_fi G49 171 17).toInt = y53.toInt := by rw [show pj_fi G49 171 17 = y53 from hy53.symm]
            have q101 : (pj_fi G49 171 18).toInt = y54.toInt := by rw [show pj_fi G49 171 18 = y54 from hy54.symm]
            have q102 : (pj_fi G49 171 27).toInt = y55.toInt := by rw [show pj_fi G49 171 27 = y55 from hy55.symm]
            have q103 : (pj_fi G49 171 19).toInt = y56.toInt := by rw [show pj_fi G49 171 19 = y56 from hy56.symm]
            exact pj_X_rt rfl rfl ⟨_, rfl, iG49, kG49, ⟨by omega, by omega⟩, (fun H hH => by subst hH; exact (⟨by omega, (pj_qp_k (pj_qp_k (pj_qp_k (pj_qp_r G0) (jG10.1 (171, 27) (by decide)) (fun j => jG10.2.2 183 (by decide) j)) (jG30.1 (171, 27) (by decide)) (fun j => jG30.2.2 183 (by decide) j)) (jG49.1 (171, 27) (by decide)) (fun j => jG49.2.2 183 (by decide) j)), (fun q => absurd q (by omega))⟩)), rfl⟩
      | false =>
        rw [pj_cF]
        have ub38 := pj_u0_ltF b38
        refine pj_X_of (fun r h => pj_R_ifF rfl b38 h) ?_
        refine pj_X_of (fun r h => pj_R_to (G30, 58, [(1, .int y29), (0, .ref 171)], [.int (((Int16.ofInt 1000).toInt32) + y29), .ref 171], 0, 0) 58 5 (fun _ => rfl) h) ?_
        obtain ⟨z104, hz104⟩ : ∃ z : Int32, z = ((Int16.ofInt 1000).toInt32) + y29 := ⟨_, rfl⟩
        refine pj_X_eqi hz104.symm ?_
        rw [← hz104, pj_nm_e]
        have fz104_0 : z104.toInt = ((Int16.ofInt 1000).toInt32).toInt + y29.toInt := by rw [hz104]; exact pj_addI (by have := pj_i32 ((Int16.ofInt 1000).toInt32); have := pj_i32 y29; omega) (by have := pj_i32 ((Int16.ofInt 1000).toInt32); have := pj_i32 y29; omega)
        have q105 : (pj_fi G30 171 17).toInt = y34.toInt := by rw [show pj_fi G30 171 17 = y34 from hy34.symm]
        have q106 : (pj_fi G30 171 18).toInt = y35.toInt := by rw [show pj_fi G30 171 18 = y35 from hy35.symm]
        have q107 : (pj_fi G30 171 27).toInt = y36.toInt := by rw [show pj_fi G30 171 27 = y36 from hy36.symm]
        have q108 : (pj_fi G30 171 19).toInt = y37.toInt := by rw [show pj_fi G30 171 19 = y37 from hy37.symm]
        refine pj_X_ca (vs := [.ref 171, .int z104]) rfl (fun _ => rfl) ⟨Nat.le_of_ble_eq_true rfl, Nat.le_of_ble_eq_true rfl, pj_T_rcv iG30 rfl⟩ ⟨rfl, rfl⟩ (pj_Y_up (by omega) (ct_197x G30 iG30 z104 (by omega) (by omega))) ?_
        rintro _ G110 ⟨rfl, iG110, jG110, eG110, fy109⟩
        replace eG110 := eG110 _ rfl
        rw [← fy109, pj_nm_e]
        have kG110 : pj_kpt pj_MY G0 G110 := pj_kpt_t kG30 (pj_kpt_s jG110 rfl)
        have q111 : (pj_fi G110 171 17).toInt = (pj_fi G30 171 17).toInt := by rw [jG110.1 (171, 17) (by decide)]
        have q112 : (pj_fi G110 171 18).toInt = (pj_fi G30 171 18).toInt := by rw [jG110.1 (171, 18) (by decide)]
        have q113 : (pj_fi G110 171 19).toInt = (pj_fi G30 171 19).toInt := by rw [jG110.1 (171, 19) (by decide)]
        have q114 := eG110.1
        obtain ⟨y115, hy115⟩ : ∃ z : Int32, z = pj_fi G110 171 17 := ⟨_, rfl⟩
        have ey115 : (pj_fi G110 171 17).toInt = y115.toInt := by rw [hy115]
        have ry115 : (0 : Int) ≤ y115.toInt ∧ y115.toInt ≤ 80 := by rw [hy115]; exact iG110.2.1 171 17 (0, 80) rfl
        obtain ⟨y116, hy116⟩ : ∃ z : Int32, z = pj_fi G110 171 18 := ⟨_, rfl⟩
        have ey116 : (pj_fi G110 171 18).toInt = y116.toInt := by rw [hy116]
        have ry116 : (0 : Int) ≤ y116.toInt ∧ y116.toInt ≤ 80 := by rw [hy116]; exact iG110.2.1 171 18 (0, 80) rfl
        obtain ⟨y117, hy117⟩ : ∃ z : Int32, z = pj_fi G110 171 27 := ⟨_, rfl⟩
        have ey117 : (pj_fi G110 171 27).toInt = y117.toInt := by rw [hy117]
        have ry117 : (0 : Int) ≤ y117.toInt ∧ y117.toInt ≤ 80 := by rw [hy117]; exact iG110.2.1 171 27 (0, 80) rfl
        obtain ⟨y118, hy118⟩ : ∃ z : Int32, z = pj_fi G110 171 19 := ⟨_, rfl⟩
        have ey118 : (pj_fi G110 171 19).toInt = y118.toInt := by rw [hy118]
        have ry118 : (0 : Int) ≤ y118.toInt ∧ y118.toInt ≤ 4 := by rw [hy118]; exact iG110.2.1 171 19 (0, 4) rfl
        show pj_X _ _ G110 61 [(1, .int y29), (0, .ref 171)] [] _
        refine pj_X_of (fun r h => pj_R_to (G110, 62, [(1, .int y29), (0, .ref 171)], [.int (Int32.ofInt 1)], 0, 0) 62 2 (fun _ => rfl) h) ?_
        have q119 : (pj_fi G110 171 17).toInt = y115.toInt := by rw [show pj_fi G110 171 17 = y115 from hy115.symm]
        have q120 : (pj_fi G110 171 18).toInt = y116.toInt := by rw [show pj_fi G110 171 18 = y116 from hy116.symm]
        have q121 : (pj_fi G110 171 27).toInt = y117.toInt := by rw [show pj_fi G110 171 27 = y117 from hy117.symm]
        have q122 : (pj_fi G110 171 19).toInt = y118.toInt := by rw [show pj_fi G110 171 19 = y118 from hy118.symm]
        exact pj_X_rt rfl rfl ⟨_, rfl, iG110, kG110, ⟨by omega, by omega⟩, (fun H hH => by subst hH; exact (⟨by omega, (pj_qp_c (pj_qp_k (pj_qp_k (pj_qp_r G0) (jG10.1 (171, 27) (by decide)) (fun j => jG10.2.2 183 (by decide) j)) (jG30.1 (171, 27) (by decide)) (fun j => jG30.2.2 183 (by decide) j)) eG110), (fun q => (show pj_qm G0 G110 1 from pj_qm_c (by omega) (pj_qm_k (pj_qm_k (pj_qm_r G0) (jG10.1 (171, 27) (by decide)) (fun j => jG10.2.2 183 (by decide) j)) (jG30.1 (171, 27) (by decide)) (fun j => jG30.2.2 183 (by decide) j)) eG110 (pj_vs0 (by omega))))⟩)), rfl⟩
    | false =>
      rw [pj_cF]
      have ub24 := pj_u0_eqF b24
      refine pj_X_of (fun r h => pj_R_ifF rfl b24 h) ?_
      refine pj_X_of (fun r h => pj_R_to (G10, 33, [(0, .ref 171)], [.int (Int32.ofInt 3), .ref 171, .ref 171], 0, 0) 33 4 (fun _ => rfl) h) ?_
      have q123 : (pj_fi G10 171 17).toInt = y14.toInt := by rw [show pj_fi G10 171 17 = y14 from hy14.symm]
      have q124 : (pj_fi G10 171 18).toInt = y15.toInt := by rw [show pj_fi G10 171 18 = y15 from hy15.symm]
      have q125 : (pj_fi G10 171 27).toInt = y16.toInt := by rw [show pj_fi G10 171 27 = y16 from hy16.symm]
      have q126 : (pj_fi G10 171 19).toInt = y17.toInt := by rw [show pj_fi G10 171 19 = y17 from hy17.symm]
      refine pj_X_ca (vs := [.ref 171, .int (Int32.ofInt 3)]) rfl (fun _ => rfl) ⟨Nat.le_of_ble_eq_true rfl, Nat.le_of_ble_eq_true rfl, pj_T_rcv iG10 rfl⟩ ⟨rfl, rfl⟩ (pj_Y_up (by omega) (ct_186ex G10 iG10 (Int32.ofInt 3) ⟨by omega, by omega⟩)) ?_
      rintro _ G128 ⟨y127, rfl, iG128, jG128, ry127, ey127, fy127⟩
      replace ey127 := ey127 _ rfl
      rw [← fy127, pj_bd_e]
      have kG128 : pj_kpt pj_MY G0 G128 := pj_kpt_t kG10 (pj_kpt_s jG128 rfl)
      have q129 : (pj_fi G128 171 18).toInt = (pj_fi G10 171 18).toInt := by rw [jG128.1 (171, 18) (by decide)]
      have q130 : (pj_fi G128 171 27).toInt = (pj_fi G10 171 27).toInt := by rw [jG128.1 (171, 27) (by decide)]
      have q131 : (pj_fi G128 171 19).toInt = (pj_fi G10 171 19).toInt := by rw [jG128.1 (171, 19) (by decide)]
      obtain ⟨y132, hy132⟩ : ∃ z : Int32, z = pj_fi G128 171 17 := ⟨_, rfl⟩
      have ey132 : (pj_fi G128 171 17).toInt = y132.toInt := by rw [hy132]
      have ry132 : (0 : Int) ≤ y132.toInt ∧ y132.toInt ≤ 80 := by rw [hy132]; exact iG128.2.1 171 17 (0, 80) rfl
      obtain ⟨y133, hy133⟩ : ∃ z : Int32, z = pj_fi G128 171 18 := ⟨_, rfl⟩
      have ey133 : (pj_fi G128 171 18).toInt = y133.toInt := by rw [hy133]
      have ry133 : (0 : Int) ≤ y133.toInt ∧ y133.toInt ≤ 80 := by rw [hy133]; exact iG128.2.1 171 18 (0, 80) rfl
      obtain ⟨y134, hy134⟩ : ∃ z : Int32, z = pj_fi G128 171 27 := ⟨_, rfl⟩
      have ey134 : (pj_fi G128 171 27).toInt = y134.toInt := by rw [hy134]
      have ry134 : (0 : Int) ≤ y134.toInt ∧ y134.toInt ≤ 80 := by rw [hy134]; exact iG128.2.1 171 27 (0, 80) rfl
      obtain ⟨y135, hy135⟩ : ∃ z : Int32, z = pj_fi G128 171 19 := ⟨_, rfl⟩
      have ey135 : (pj_fi G128 171 19).toInt = y135.toInt := by rw [hy135]
      have ry135 : (0 : Int) ≤ y135.toInt ∧ y135.toInt ≤ 4 := by rw [hy135]; exact iG128.2.1 171 19 (0, 4) rfl
      show pj_X _ _ G128 36 [(0, .ref 171)] [.int y127, .ref 171] _
      have q136 : (pj_fi G128 171 17).toInt = y132.toInt := by rw [show pj_fi G128 171 17 = y132 from hy132.symm]
      have q137 : (pj_fi G128 171 18).toInt = y133.toInt := by rw [show pj_fi G128 171 18 = y133 from hy133.symm]
      have q138 : (pj_fi G128 171 27).toInt = y134.toInt := by rw [show pj_fi G128 171 27 = y134 from hy134.symm]
      have q139 : (pj_fi G128 171 19).toInt = y135.toInt := by rw [show pj_fi G128 171 19 = y135 from hy135.symm]
      refine pj_X_ca (vs := [.ref 171, .int y127]) rfl (fun _ => rfl) ⟨Nat.le_of_ble_eq_true rfl, Nat.le_of_ble_eq_true rfl, pj_T_rcv iG128 rfl⟩ ⟨rfl, rfl⟩ (pj_Y_up (by omega) (ct_197x G128 iG128 y127 (by omega) (by omega))) ?_
      rintro _ G141 ⟨rfl, iG141, jG141, eG141, fy140⟩
      replace eG141 := eG141 _ rfl
      rw [← fy140, pj_nm_e]
      have kG141 : pj_kpt pj_MY G0 G141 := pj_kpt_t kG128 (pj_kpt_s jG141 rfl)
      have q142 : (pj_fi G141 171 17).toInt = (pj_fi G128 171 17).toInt := by rw [jG141.1 (171, 17) (by decide)]
      have q143 : (pj_fi G141 171 18).toInt = (pj_fi G128 171 18).toInt := by rw [jG141.1 (171, 18) (by decide)]
      have q144 : (pj_fi G141 171 19).toInt = (pj_fi G128 171 19).toInt := by rw [jG141.1 (171, 19) (by decide)]
      have q145 := eG141.1
      obtain ⟨y146, hy146⟩ : ∃ z : Int32, z = pj_fi G141 171 17 := ⟨_, rfl⟩
      have ey146 : (pj_fi G141 171 17).toInt = y146.toInt := by rw [hy146]
      have ry146 : (0 : Int) ≤ y146.toInt ∧ y146.toInt ≤ 80 := by rw [hy146]; exact iG141.2.1 171 17 (0, 80) rfl
      obtain ⟨y147, hy147⟩ : ∃ z : Int32, z = pj_fi G141 171 18 := ⟨_, rfl⟩
      have ey147 : (pj_fi G141 171 18).toInt = y147.toInt := by rw [hy147]
      have ry147 : (0 : Int) ≤ y147.toInt ∧ y147.toInt ≤ 80 := by rw [hy147]; exact iG141.2.1 171 18 (0, 80) rfl
      obtain ⟨y148, hy148⟩ : ∃ z : Int32, z = pj_fi G141 171 27 := ⟨_, rfl⟩
      have ey148 : (pj_fi G141 171 27).toInt = y148.toInt := by rw [hy148]
      have ry148 : (0 : Int) ≤ y148.toInt ∧ y148.toInt ≤ 80 := by rw [hy148]; exact iG141.2.1 171 27 (0, 80) rfl
      obtain ⟨y149, hy149⟩ : ∃ z : Int32, z = pj_fi G141 171 19 := ⟨_, rfl⟩
      have ey149 : (pj_fi G141 171 19).toInt = y149.toInt := by rw [hy149]
      have ry149 : (0 : Int) ≤ y149.toInt ∧ y149.toInt ≤ 4 := by rw [hy149]; exact iG141.2.1 171 19 (0, 4) rfl
      show pj_X _ _ G141 39 [(0, .ref 171)] [] _
      refine pj_X_of (fun r h => pj_R_to (G141, 40, [(0, .ref 171)], [.int (Int32.ofInt 1)], 0, 0) 40 2 (fun _ => rfl) h) ?_
      have q150 : (pj_fi G141 171 17).toInt = y146.toInt := by rw [show pj_fi G141 171 17 = y146 from hy146.symm]
      have q151 : (pj_fi G141 171 18).toInt = y147.toInt := by rw [show pj_fi G141 171 18 = y147 from hy147.symm]
      have q152 : (pj_fi G141 171 27).toInt = y148.toInt := by rw [show pj_fi G141 171 27 = y148 from hy148.symm]
      have q153 : (pj_fi G141 171 19).toInt = y149.toInt := by rw [show pj_fi G141 171 19 = y149 from hy149.symm]
      exact pj_X_rt rfl rfl ⟨_, rfl, iG141, kG141, ⟨by omega, by omega⟩, (fun H hH => by subst hH; exact (⟨by omega, (pj_qp_c (pj_qp_k (pj_qp_k (pj_qp_r G0) (jG10.1 (171, 27) (by decide)) (fun j => jG10.2.2 183 (by decide) j)) (jG128.1 (171, 27) (by decide)) (fun j => jG128.2.2 183 (by decide) j)) eG141), (fun q => (show pj_qm G0 G141 1 from pj_qm_c (by omega) (pj_qm_k (pj_qm_k (pj_qm_r G0) (jG10.1 (171, 27) (by decide)) (fun j => jG10.2.2 183 (by decide) j)) (jG128.1 (171, 27) (by decide)) (fun j => jG128.2.2 183 (by decide) j)) eG141 (pj_vs0 (by omega))))⟩)), rfl⟩
  | false =>
    rw [pj_cF]
    have ub18 := pj_u0_eqF b18
    refine pj_X_of (fun r h => pj_R_ifF rfl b18 h) ?_
    refine pj_X_of (fun r h => pj_R_to (G10, 10, [(0, .ref 171)], [.ref 171], 0, 0) 10 2 (fun _ => rfl) h) ?_
    have q154 : (pj_fi G10 171 17).toInt = y14.toInt := by rw [show pj_fi G10 171 17 = y14 from hy14.symm]
    have q155 : (pj_fi G10 171 18).toInt = y15.toInt := by rw [show pj_fi G10 171 18 = y15 from hy15.symm]
    have q156 : (pj_fi G10 171 27).toInt = y16.toInt := by rw [show pj_fi G10 171 27 = y16 from hy16.symm]
    have q157 : (pj_fi G10 171 19).toInt = y17.toInt := by rw [show pj_fi G10 171 19 = y17 from hy17.symm]
    refine pj_X_ca (vs := [.ref 171]) rfl (fun _ => rfl) ⟨Nat.le_of_ble_eq_true rfl, Nat.le_of_ble_eq_true rfl, pj_T_rcv iG10 rfl⟩ ⟨rfl, rfl⟩ (pj_Y_up (by omega) (p0_.1 G10 iG10 (by omega) (by omega) (by omega))) ?_
    rintro _ G159 ⟨y158, rfl, iG159, jG159, ry158, ey158, fy158⟩
    replace ey158 := ey158 _ rfl
    rw [← fy158, pj_bd_e]
    have kG159 : pj_kpt pj_MY G0 G159 := pj_kpt_t kG10 (pj_kpt_s jG159 rfl)
    have q160 : (pj_fi G159 171 18).toInt = (pj_fi G10 171 18).toInt := by rw [jG159.1 (171, 18) (by decide)]
    obtain ⟨y161, hy161⟩ : ∃ z : Int32, z = pj_fi G159 171 17 := ⟨_, rfl⟩
    have ey161 : (pj_fi G159 171 17).toInt = y161.toInt := by rw [hy161]
    have ry161 : (0 : Int) ≤ y161.toInt ∧ y161.toInt ≤ 80 := by rw [hy161]; exact iG159.2.1 171 17 (0, 80) rfl
    obtain ⟨y162, hy162⟩ : ∃ z : Int32, z = pj_fi G159 171 18 := ⟨_, rfl⟩
    have ey162 : (pj_fi G159 171 18).toInt = y162.toInt := by rw [hy162]
    have ry162 : (0 : Int) ≤ y162.toInt ∧ y162.toInt ≤ 80 := by rw [hy162]; exact iG159.2.1 171 18 (0, 80) rfl
    obtain ⟨y163, hy163⟩ : ∃ z : Int32, z = pj_fi G159 171 27 := ⟨_, rfl⟩
    have ey163 : (pj_fi G159 171 27).toInt = y163.toInt := by rw [hy163]
    have ry163 : (0 : Int) ≤ y163.toInt ∧ y163.toInt ≤ 80 := by rw [hy163]; exact iG159.2.1 171 27 (0, 80) rfl
    obtain ⟨y164, hy164⟩ : ∃ z : Int32, z = pj_fi G159 171 19 := ⟨_, rfl⟩
    have ey164 : (pj_fi G159 171 19).toInt = y164.toInt := by rw [hy164]
    have ry164 : (0 : Int) ≤ y164.toInt ∧ y164.toInt ≤ 4 := by rw [hy164]; exact iG159.2.1 171 19 (0, 4) rfl
    show pj_X _ _ G159 13 [(0, .ref 171)] [.int y158] _
    refine pj_X_of (fun r h => pj_R_to (G159, 18, [(1, .int y158), (0, .ref 171)], [.int ((Int16.ofInt 3000).toInt32), .ref 171], 0, 0) 18 4 (fun _ => rfl) h) ?_
    have q165 : (pj_fi G159 171 17).toInt = y161.toInt := by rw [show pj_fi G159 171 17 = y161 from hy161.symm]
    have q166 : (pj_fi G159 171 18).toInt = y162.toInt := by rw [show pj_fi G159 171 18 = y162 from hy162.symm]
    have q167 : (pj_fi G159 171 27).toInt = y163.toInt := by rw [show pj_fi G159 171 27 = y163 from hy163.symm]
    have q168 : (pj_fi G159 171 19).toInt = y164.toInt := by rw [show pj_fi G159 171 19 = y164 from hy164.symm]
    refine pj_X_ca (vs := [.ref 171, .int ((Int16.ofInt 3000).toInt32)]) rfl (fun _ => rfl) ⟨Nat.le_of_ble_eq_true rfl, Nat.le_of_ble_eq_true rfl, pj_T_rcv iG159 rfl⟩ ⟨rfl, rfl⟩ (pj_Y_up (by omega) (ct_197x G159 iG159 ((Int16.ofInt 3000).toInt32) (by omega) (by omega))) ?_
    rintro _ G170 ⟨rfl, iG170, jG170, eG170, fy169⟩
    replace eG170 := eG170 _ rfl
    rw [← fy169, pj_nm_e]
    have kG170 : pj_kpt pj_MY G0 G170 := pj_kpt_t kG159 (pj_kpt_s jG170 rfl)
    have q171 : (pj_fi G170 171 17).toInt = (pj_fi G159 171 17).toInt := by rw [jG170.1 (171, 17) (by decide)]
    have q172 : (pj_fi G170 171 18).toInt = (pj_fi G159 171 18).toInt := by rw [jG170.1 (171, 18) (by decide)]
    have q173 : (pj_fi G170 171 19).toInt = (pj_fi G159 171 19).toInt := by rw [jG170.1 (171, 19) (by decide)]
    have q174 := eG170.1
    obtain ⟨y175, hy175⟩ : ∃ z : Int32, z = pj_fi G170 171 17 := ⟨_, rfl⟩
    have ey175 : (pj_fi G170 171 17).toInt = y175.toInt := by rw [hy175]
    have ry175 : (0 : Int) ≤ y175.toInt ∧ y175.toInt ≤ 80 := by rw [hy175]; exact iG170.2.1 171 17 (0, 80) rfl
    obtain ⟨y176, hy176⟩ : ∃ z : Int32, z = pj_fi G170 171 18 := ⟨_, rfl⟩
    have ey176 : (pj_fi G170 171 18).toInt = y176.toInt := by rw [hy176]
    have ry176 : (0 : Int) ≤ y176.toInt ∧ y176.toInt ≤ 80 := by rw [hy176]; exact iG170.2.1 171 18 (0, 80) rfl
    obtain ⟨y177, hy177⟩ : ∃ z : Int32, z = pj_fi G170 171 27 := ⟨_, rfl⟩
    have ey177 : (pj_fi G170 171 27).toInt = y177.toInt := by rw [hy177]
    have ry177 : (0 : Int) ≤ y177.toInt ∧ y177.toInt ≤ 80 := by rw [hy177]; exact iG170.2.1 171 27 (0, 80) rfl
    obtain ⟨y178, hy178⟩ : ∃ z : Int32, z = pj_fi G170 171 19 := ⟨_, rfl⟩
    have ey178 : (pj_fi G170 171 19).toInt = y178.toInt := by rw [hy178]
    have ry178 : (0 : Int) ≤ y178.toInt ∧ y178.toInt ≤ 4 := by rw [hy178]; exact iG170.2.1 171 19 (0, 4) rfl
    show pj_X _ _ G170 21 [(1, .int y158), (0, .ref 171)] [] _
    refine pj_X_of (fun r h => pj_R_to (G170, 22, [(1, .int y158), (0, .ref 171)], [.int y158], 0, 0) 22 2 (fun _ => rfl) h) ?_
    have q179 : (pj_fi G170 171 17).toInt = y175.toInt := by rw [show pj_fi G170 171 17 = y175 from hy175.symm]
    have q180 : (pj_fi G170 171 18).toInt = y176.toInt := by rw [show pj_fi G170 171 18 = y176 from hy176.symm]
    have q181 : (pj_fi G170 171 27).toInt = y177.toInt := by rw [show pj_fi G170 171 27 = y177 from hy177.symm]
    have q182 : (pj_fi G170 171 19).toInt = y178.toInt := by rw [show pj_fi G170 171 19 = y178 from hy178.symm]
    exact pj_X_rt (v := some (.int y158)) rfl (pj_rtb ⟨by omega, by omega⟩) ⟨_, rfl, iG170, kG170, ⟨by omega, by omega⟩, (fun H hH => by subst hH; exact (⟨by omega, (pj_qp_c (pj_qp_t (pj_qp_k (pj_qp_r G0) (jG10.1 (171, 27) (by decide)) (fun j => jG10.2.2 183 (by decide) j)) ey158.2.1) eG170), (fun q => (show pj_qm G0 G170 1 from pj_qm_c (by omega) (show pj_qm G0 G159 1 from pj_qm_t (by omega) (pj_qm_k (pj_qm_r G0) (jG10.1 (171, 27) (by decide)) (fun j => jG10.2.2 183 (by decide) j)) (ey158.2.2 (by omega))) eG170 (pj_vs1 (by omega))))⟩)), rfl⟩
theorem fr_199x (G0 : pj_G) (hI : pj_Inv G0) {n : Nat} (p0_ : pj_ihx n) (p1_ : (pj_fi G0 171 27).toInt ≤ (pj_fi G0 171 17).toInt) (p2_ : (pj_fi G0 171 17).toInt ≤ (pj_fi G0 171 18).toInt) (p3_ : 5 * ((pj_fi G0 171 18).toInt - (pj_fi G0 171 17).toInt) < (n : Int) + 1) : pj_Inv (F_199x (RRx n) G0).2 ∧ pj_kpt pj_MY G0 (F_199x (RRx n) G0).2 ∧ ((0 : Int) ≤ (F_199x (RRx n) G0).1.toInt ∧ (F_199x (RRx n) G0).1.toInt ≤ 1) ∧ (((pj_fi G0 171 17).toInt ≤ (pj_fi (F_199x (RRx n) G0).2 171 17).toInt ∧ (pj_fi (F_199x (RRx n) G0).2 171 17).toInt ≤ (pj_fi (F_199x (RRx n) G0).2 171 18).toInt ∧ (pj_fi (F_199x (RRx n) G0).2 171 27).toInt + (pj_fi G0 171 17).toInt ≤ (pj_fi G0 171 27).toInt + (pj_fi (F_199x (RRx n) G0).2 171 17).toInt ∧ (1 ≤ (F_199x (RRx n) G0).1.toInt → (pj_fi (F_199x (RRx n) G0).2 171 19).toInt = (pj_fi G0 171 19).toInt)) ∧ pj_qp G0 (F_199x (RRx n) G0).2 ∧ (1 ≤ (F_199x (RRx n) G0).1.toInt → pj_qm G0 (F_199x (RRx n) G0).2 1)) := by
  obtain ⟨v, G', -, y, -, i, j, r, x, e⟩ := ct_198x G0 hI p0_ p1_ p2_ p3_
  rw [← e]
  exact ⟨i, j, r, x _ rfl⟩
theorem lp_ct_199x (G0 : pj_G) (hI0 : pj_Inv G0) {n : Nat} (rk : Int32) (rrk : (0 : Int) ≤ rk.toInt ∧ rk.toInt ≤ 3) (p0_ : pj_ihx n) (p1_ : (pj_fi G0 171 27).toInt ≤ (pj_fi G0 171 17).toInt) (p2_ : (pj_fi G0 171 17).toInt ≤ (pj_fi G0 171 18).toInt) (p3_ : 5 * ((pj_fi G0 171 18).toInt - (pj_fi G0 171 17).toInt) + 4 - rk.toInt < (n : Int) + 1) : ∀ mn : Nat, (∀ (G : pj_G) (hI : pj_Inv G) (hK : pj_kpt pj_MY G0 G) (v2 : Int32), ((0 : Int) ≤ v2.toInt ∧ v2.toInt ≤ 1) → (pj_qm G0 G 1) → ((pj_fi G0 171 17).toInt ≤ (pj_fi G 171 17).toInt ∧ (pj_fi G 171 17).toInt ≤ (pj_fi G 171 18).toInt ∧ (pj_fi G 171 27).toInt + (pj_fi G0 171 17).toInt ≤ (pj_fi G0 171 27).toInt + (pj_fi G 171 17).toInt ∧ (pj_fi G 171 19).toInt = (pj_fi G0 171 19).toInt ∧ rk.toInt ≤ 2) → (0 ≤ (pj_fi G0 171 27).toInt ∧ (pj_fi G 171 18).toInt = (pj_fi G0 171 18).toInt) → 2 * ((pj_fi G 171 18).toInt - (pj_fi G 171 17).toInt) + v2.toInt < (mn : Int) → pj_X (20 + n) pj_m199 G 24 [(0, .ref 171), (1, .int rk), (2, .int v2)] [] (fun v' G' => ∃ y : Int32, v' = some (.int y) ∧ pj_Inv G' ∧ pj_kpt pj_MY G0 G' ∧ ((0 : Int) ≤ y.toInt ∧ y.toInt ≤ 1) ∧ (∀ H, G0 = H → (((pj_fi H 171 17).toInt ≤ (pj_fi G' 171 17).toInt ∧ (pj_fi G' 171 17).toInt ≤ (pj_fi G' 171 18).toInt ∧ (pj_fi G' 171 27).toInt + (pj_fi H 171 17).toInt ≤ (pj_fi H 171 27).toInt + (pj_fi G' 171 17).toInt ∧ (1 ≤ y.toInt → (pj_fi G' 171 19).toInt = (pj_fi H 171 19).toInt)) ∧ pj_qp H G' ∧ (1 ≤ y.toInt → pj_qm H G' 1))) ∧ ((y, G') = L_200x (RRx n) G0 rk mn v2 G))) := by
  have c0_ : ((Int16.ofInt 2000).toInt32).toInt = 2000 := by decide
  have c1_ : (Int32.ofInt 0).toInt = 0 := by decide
  have c2_ : (Int32.ofInt 1).toInt = 1 := by decide
  have c3_ : (Int32.ofInt 3).toInt = 3 := by decide
  have c4_ : (Int32.ofInt 5).toInt = 5 := by decide
  intro mn
  induction mn with
  | zero =>
    intro G hI hK v2 rv2 x0_ x1_ x2_ hm
    exfalso
    omega
  | succ mn ih =>
    intro G hI hK v2 rv2 x0_ x1_ x2_ hm
    rw [L_200x_s0]
    obtain ⟨y1, hy1⟩ : ∃ z : Int32, z = pj_fi G 171 17 := ⟨_, rfl⟩
    have ey1 : (pj_fi G 171 17).toInt = y1.toInt := by rw [hy1]
    have ry1 : (0 : Int) ≤ y1.toInt ∧ y1.toInt ≤ 80 := by rw [hy1]; exact hI.2.1 171 17 (0, 80) rfl
    obtain ⟨y2, hy2⟩ : ∃ z : Int32, z = pj_fi G 171 18 := ⟨_, rfl⟩
    have ey2 : (pj_fi G 171 18).toInt = y2.toInt := by rw [hy2]
    have ry2 : (0 : Int) ≤ y2.toInt ∧ y2.toInt ≤ 80 := by rw [hy2]; exact hI.2.1 171 18 (0, 80) rfl
    obtain ⟨y3, hy3⟩ : ∃ z : Int32, z = pj_fi G 171 27 := ⟨_, rfl⟩
    have ey3 : (pj_fi G 171 27).toInt = y3.toInt := by rw [hy3]
    have ry3 : (0 : Int) ≤ y3.toInt ∧ y3.toInt ≤ 80 := by rw [hy3]; exact hI.2.1 171 27 (0, 80) rfl
    obtain ⟨y4, hy4⟩ : ∃ z : Int32, z = pj_fi G 171 19 := ⟨_, rfl⟩
    have ey4 : (pj_fi G 171 19).toInt = y4.toInt := by rw [hy4]
    have ry4 : (0 : Int) ≤ y4.toInt ∧ y4.toInt ≤ 4 := by rw [hy4]; exact hI.2.1 171 19 (0, 4) rfl
    refine pj_X_of (fun r h => pj_R_to (G, 25, [(0, .ref 171), (1, .int rk), (2, .int v2)], [.int v2], 0, 0) 25 2 (fun _ => rfl) h) ?_
    cases b5 : pj_c1 .eq v2 0 with
    | true =>
      rw [pj_cT]
      have ub5 := pj_u0_eqT b5
      refine pj_X_of (fun r h => pj_R_ifT 113 rfl rfl b5 h) ?_
      refine pj_X_of (fun r h => pj_R_to (G, 114, [(0, .ref 171), (1, .int rk), (2, .int v2)], [.int (Int32.ofInt 1)], 0, 0) 114 2 (fun _ => rfl) h) ?_
      have q6 : (pj_fi G 171 17).toInt = y1.toInt := by rw [show pj_fi G 171 17 = y1 from hy1.symm]
      have q7 : (pj_fi G 171 18).toInt = y2.toInt := by rw [show pj_fi G 171 18 = y2 from hy2.symm]
      have q8 : (pj_fi G 171 27).toInt = y3.toInt := by rw [show pj_fi G 171 27 = y3 from hy3.symm]
      have q9 : (pj_fi G 171 19).toInt = y4.toInt := by rw [show pj_fi G 171 19 = y4 from hy4.symm]
      exact pj_X_rt rfl rfl ⟨_, rfl, hI, hK, ⟨by omega, by omega⟩, (fun H hH => by subst hH; exact (⟨by omega, x0_.1, (fun q => x0_)⟩)), rfl⟩
    | false =>
      rw [pj_cF]
      have ub5 := pj_u0_eqF b5
      refine pj_X_of (fun r h => pj_R_ifF rfl b5 h) ?_
      refine pj_X_of (fun r h => pj_R_to (G, 30, [(0, .ref 171), (1, .int rk), (2, .int v2)], [.int rk, .ref 171], 0, 0) 30 3 (fun _ => rfl) h) ?_
      cases b10 : pj_c1 .ne rk 0 with
      | true =>
        rw [pj_cT]
        have ub10 := pj_u0_neT b10
        refine pj_X_of (fun r h => pj_R_ifT 38 rfl rfl b10 h) ?_
        refine pj_X_of (fun r h => pj_R_to (G, 40, [(0, .ref 171), (1, .int rk), (2, .int v2)], [.int (Int32.ofInt 1), .int rk, .ref 171], 0, 0) 40 3 (fun _ => rfl) h) ?_
        cases b11 : pj_c1 .ne rk (Int32.ofInt 1) with
        | true =>
          rw [pj_cT]
          have ub11 := pj_u_neT b11
          refine pj_X_of (fun r h => pj_R_icT 48 rfl rfl b11 h) ?_
          refine pj_X_of (fun r h => pj_R_to (G, 50, [(0, .ref 171), (1, .int rk), (2, .int v2)], [.retAddr 14, .ref 171], 0, 0) 50 2 (fun _ => rfl) h) ?_
          have q12 : (pj_fi G 171 17).toInt = y1.toInt := by rw [show pj_fi G 171 17 = y1 from hy1.symm]
          have q13 : (pj_fi G 171 18).toInt = y2.toInt := by rw [show pj_fi G 171 18 = y2 from hy2.symm]
          have q14 : (pj_fi G 171 27).toInt = y3.toInt := by rw [show pj_fi G 171 27 = y3 from hy3.symm]
          have q15 : (pj_fi G 171 19).toInt = y4.toInt := by rw [show pj_fi G 171 19 = y4 from hy4.symm]
          refine pj_X_ca (vs := [.ref 171, .retAddr 14]) rfl (fun _ => rfl) ⟨Nat.le_of_ble_eq_true rfl, Nat.le_of_ble_eq_true rfl, pj_T_rcv hI rfl⟩ ⟨rfl, rfl⟩ (pj_Y_up (by omega) (ct_185_s14x G hI)) ?_
          rintro _ G17 ⟨y16, rfl, iG17, jG17, ry16, ey16, fy16⟩
          replace ey16 := ey16 _ rfl
          rw [← fy16, pj_bd_e]
          have kG17 : pj_kpt pj_MY G0 G17 := pj_kpt_t hK (pj_kpt_s jG17 rfl)
          have q18 : (pj_fi G17 171 18).toInt = (pj_fi G 171 18).toInt := by rw [jG17.1 (171, 18) (by decide)]
          have q19 : (pj_fi G17 171 27).toInt = (pj_fi G 171 27).toInt := by rw [jG17.1 (171, 27) (by decide)]
          have q20 : (pj_fi G17 171 19).toInt = (pj_fi G 171 19).toInt := by rw [jG17.1 (171, 19) (by decide)]
          obtain ⟨y21, hy21⟩ : ∃ z : Int32, z = pj_fi G17 171 17 := ⟨_, rfl⟩
          have ey21 : (pj_fi G17 171 17).toInt = y21.toInt := by rw [hy21]
          have ry21 : (0 : Int) ≤ y21.toInt ∧ y21.toInt ≤ 80 := by rw [hy21]; exact iG17.2.1 171 17 (0, 80) rfl
          obtain ⟨y22, hy22⟩ : ∃ z : Int32, z = pj_fi G17 171 18 := ⟨_, rfl⟩
          have ey22 : (pj_fi G17 171 18).toInt = y22.toInt := by rw [hy22]
          have ry22 : (0 : Int) ≤ y22.toInt ∧ y22.toInt ≤ 80 := by rw [hy22]; exact iG17.2.1 171 18 (0, 80) rfl
          obtain ⟨y23, hy23⟩ : ∃ z : Int32, z = pj_fi G17 171 27 := ⟨_, rfl⟩
          have ey23 : (pj_fi G17 171 27).toInt = y23.toInt := by rw [hy23]
          have ry23 : (0 : Int) ≤ y23.toInt ∧ y23.toInt ≤ 80 := by rw [hy23]; exact iG17.2.1 171 27 (0, 80) rfl
          obtain ⟨y24, hy24⟩ : ∃ z : Int32, z = pj_fi G17 171 19 := ⟨_, rfl⟩
          have ey24 : (pj_fi G17 171 19).toInt = y24.toInt := by rw [hy24]
          have ry24 : (0 : Int) ≤ y24.toInt ∧ y24.toInt ≤ 4 := by rw [hy24]; exact iG17.2.1 171 19 (0, 4) rfl
          show pj_X _ _ G17 53 [(0, .ref 171), (1, .int rk), (2, .int v2)] [.int y16] _
          refine pj_X_of (fun r h => pj_R_to (G17, 55, [(3, .int y16), (0, .ref 171), (1, .int rk), (2, .int v2)], [.int y16], 0, 0) 55 3 (fun _ => rfl) h) ?_
          cases b25 : pj_c1 .ge y16 0 with
          | true =>
            rw [pj_cT]
            have ub25 := pj_u0_geT b25
            refine pj_X_of (fun r h => pj_R_ifT 60 rfl rfl b25 h) ?_
            refine pj_X_of (fun r h => pj_R_to (G17, 64, [(3, .int y16), (0, .ref 171), (1, .int rk), (2, .int v2)], [.int (rk + (Int32.ofInt 1)), .ref 171], 0, 0) 64 5 (fun _ => rfl) h) ?_
            obtain ⟨z26, hz26⟩ : ∃ z : Int32, z = rk + (Int32.ofInt 1) := ⟨_, rfl⟩
            refine pj_X_eqi hz26.symm ?_
            rw [← hz26, pj_nm_e]
            have fz26_0 : z26.toInt = rk.toInt + (Int32.ofInt 1).toInt := by rw [hz26]; exact pj_addI (by have := pj_i32 rk; have := pj_i32 (Int32.ofInt 1); omega) (by have := pj_i32 rk; have := pj_i32 (Int32.ofInt 1); omega)
            have q27 : (pj_fi G17 171 17).toInt = y21.toInt := by rw [show pj_fi G17 171 17 = y21 from hy21.symm]
            have q28 : (pj_fi G17 171 18).toInt = y22.toInt := by rw [show pj_fi G17 171 18 = y22 from hy22.symm]
            have q29 : (pj_fi G17 171 27).toInt = y23.toInt := by rw [show pj_fi G17 171 27 = y23 from hy23.symm]
            have q30 : (pj_fi G17 171 19).toInt = y24.toInt := by rw [show pj_fi G17 171 19 = y24 from hy24.symm]
            refine pj_X_ca (vs := [.ref 171, .int z26]) rfl (fun _ => rfl) ⟨Nat.le_of_ble_eq_true rfl, Nat.le_of_ble_eq_true rfl, pj_T_rcv iG17 rfl⟩ ⟨rfl, rfl⟩ (pj_Y_up (by omega) (p0_.2 G17 z26 iG17 ⟨by omega, by omega⟩ (by omega) (by omega) (by omega))) ?_
            rintro _ G32 ⟨y31, rfl, iG32, jG32, ry31, ey31, fy31⟩
            replace ey31 := ey31 _ rfl
            rw [← fy31, pj_bd_e]
            have kG32 : pj_kpt pj_MY G0 G32 := pj_kpt_t kG17 (pj_kpt_s jG32 rfl)
            have q33 : (pj_fi G32 171 18).toInt = (pj_fi G17 171 18).toInt := by rw [jG32.1 (171, 18) (by decide)]
            obtain ⟨y34, hy34⟩ : ∃ z : Int32, z = pj_fi G32 171 17 := ⟨_, rfl⟩
            have ey34 : (pj_fi G32 171 17).toInt = y34.toInt := by rw [hy34]
            have ry34 : (0 : Int) ≤ y34.toInt ∧ y34.toInt ≤ 80 := by rw [hy34]; exact iG32.2.1 171 17 (0, 80) rfl
            obtain ⟨y35, hy35⟩ : ∃ z : Int32, z = pj_fi G32 171 18 := ⟨_, rfl⟩
            have ey35 : (pj_fi G32 171 18).toInt = y35.toInt := by rw [hy35]
            have ry35 : (0 : Int) ≤ y35.toInt ∧ y35.toInt ≤ 80 := by rw [hy35]; exact iG32.2.1 171 18 (0, 80) rfl
            obtain ⟨y36, hy36⟩ : ∃ z : Int32, z = pj_fi G32 171 27 := ⟨_, rfl⟩
            have ey36 : (pj_fi G32 171 27).toInt = y36.toInt := by rw [hy36]
            have ry36 : (0 : Int) ≤ y36.toInt ∧ y36.toInt ≤ 80 := by rw [hy36]; exact iG32.2.1 171 27 (0, 80) rfl
            obtain ⟨y37, hy37⟩ : ∃ z : Int32, z = pj_fi G32 171 19 := ⟨_, rfl⟩
            have ey37 : (pj_fi G32 171 19).toInt = y37.toInt := by rw [hy37]
            have ry37 : (0 : Int) ≤ y37.toInt ∧ y37.toInt ≤ 4 := by rw [hy37]; exact iG32.2.1 171 19 (0, 4) rfl
            show pj_X _ _ G32 67 [(3, .int y16), (0, .ref 171), (1, .int rk), (2, .int v2)] [.int y31] _
            cases b38 : pj_c1 .ne y31 0 with
            | true =>
              rw [pj_cT]
              have ub38 := pj_u0_neT b38
              refine pj_X_of (fun r h => pj_R_ifT 72 rfl rfl b38 h) ?_
              refine pj_X_of (fun r h => pj_R_to (G32, 78, [(3, .int y16), (0, .ref 171), (1, .int rk), (2, .int v2)], [.int (((Int16.ofInt 2000).toInt32) + y16), .ref 171], 0, 0) 78 5 (fun _ => rfl) h) ?_
              obtain ⟨z39, hz39⟩ : ∃ z : Int32, z = ((Int16.ofInt 2000).toInt32) + y16 := ⟨_, rfl⟩
              refine pj_X_eqi hz39.symm ?_
              rw [← hz39, pj_nm_e]
              have fz39_0 : z39.toInt = ((Int16.ofInt 2000).toInt32).toInt + y16.toInt := by rw [hz39]; exact pj_addI (by have := pj_i32 ((Int16.ofInt 2000).toInt32); have := pj_i32 y16; omega) (by have := pj_i32 ((Int16.ofInt 2000).toInt32); have := pj_i32 y16; omega)
              refine pj_X_of (fun r h => pj_R_to (G32, 79, [(3, .int y16), (0, .ref 171), (1, .int rk), (2, .int v2)], [.int rk, .int z39, .ref 171], 0, 0) 79 2 (fun _ => rfl) h) ?_
              refine pj_X_of (fun r h => pj_R_ifT 86 rfl rfl (pj_b0_neT (by omega)) h) ?_
              refine pj_X_of (fun r h => pj_R_to (G32, 88, [(3, .int y16), (0, .ref 171), (1, .int rk), (2, .int v2)], [.int (Int32.ofInt 1), .int rk, .int z39, .ref 171], 0, 0) 88 3 (fun _ => rfl) h) ?_
              refine pj_X_of (fun r h => pj_R_icT 95 rfl rfl (pj_b_neT (by omega)) h) ?_
              refine pj_X_of (fun r h => pj_R_to (G32, 97, [(3, .int y16), (0, .ref 171), (1, .int rk), (2, .int v2)], [.int (z39 + (Int32.ofInt 5)), .ref 171], 0, 0) 97 3 (fun _ => rfl) h) ?_
              obtain ⟨z40, hz40⟩ : ∃ z : Int32, z = z39 + (Int32.ofInt 5) := ⟨_, rfl⟩
              refine pj_X_eqi hz40.symm ?_
              rw [← hz40, pj_nm_e]
              have fz40_0 : z40.toInt = z39.toInt + (Int32.ofInt 5).toInt := by rw [hz40]; exact pj_addI (by have := pj_i32 z39; have := pj_i32 (Int32.ofInt 5); omega) (by have := pj_i32 z39; have := pj_i32 (Int32.ofInt 5); omega)
              have q41 : (pj_fi G32 171 17).toInt = y34.toInt := by rw [show pj_fi G32 171 17 = y34 from hy34.symm]
              have q42 : (pj_fi G32 171 18).toInt = y35.toInt := by rw [show pj_fi G32 171 18 = y35 from hy35.symm]
              have q43 : (pj_fi G32 171 27).toInt = y36.toInt := by rw [show pj_fi G32 171 27 = y36 from hy36.symm]
              have q44 : (pj_fi G32 171 19).toInt = y37.toInt := by rw [show pj_fi G32 171 19 = y37 from hy37.symm]
              refine pj_X_ca (vs := [.ref 171, .int z40]) rfl (fun _ => rfl) ⟨Nat.le_of_ble_eq_true rfl, Nat.le_of_ble_eq_true rfl, pj_T_rcv iG32 rfl⟩ ⟨rfl, rfl⟩ (pj_Y_up (by omega) (ct_197x G32 iG32 z40 (by omega) (by omega))) ?_
              rintro _ G46 ⟨rfl, iG46, jG46, eG46, fy45⟩
              replace eG46 := eG46 _ rfl
              rw [← fy45, pj_nm_e]
              have kG46 : pj_kpt pj_MY G0 G46 := pj_kpt_t kG32 (pj_kpt_s jG46 rfl)
              have q47 : (pj_fi G46 171 17).toInt = (pj_fi G32 171 17).toInt := by rw [jG46.1 (171, 17) (by decide)]
              have q48 : (pj_fi G46 171 18).toInt = (pj_fi G32 171 18).toInt := by rw [jG46.1 (171, 18) (by decide)]
              have q49 : (pj_fi G46 171 19).toInt = (pj_fi G32 171 19).toInt := by rw [jG46.1 (171, 19) (by decide)]
              have q50 := eG46.1
              obtain ⟨y51, hy51⟩ : ∃ z : Int32, z = pj_fi G46 171 17 := ⟨_, rfl⟩
              have ey51 : (pj_fi G46 171 17).toInt = y51.toInt := by rw [hy51]
              have ry51 : (0 : Int) ≤ y51.toInt ∧ y51.toInt ≤ 80 := by rw [hy51]; exact iG46.2.1 171 17 (0, 80) rfl
              obtain ⟨y52, hy52⟩ : ∃ z : Int32, z = pj_fi G46 171 18 := ⟨_, rfl⟩
              have ey52 : (pj_fi G46 171 18).toInt = y52.toInt := by rw [hy52]
              have ry52 : (0 : Int) ≤ y52.toInt ∧ y52.toInt ≤ 80 := by rw [hy52]; exact iG46.2.1 171 18 (0, 80) rfl
              obtain ⟨y53, hy53⟩ : ∃ z : Int32, z = pj_fi G46 171 27 := ⟨_, rfl⟩
              have ey53 : (pj_fi G46 171 27).toInt = y53.toInt := by rw [hy53]
              have ry53 : (0 : Int) ≤ y53.toInt ∧ y53.toInt ≤ 80 := by rw [hy53]; exact iG46.2.1 171 27 (0, 80) rfl
              obtain ⟨y54, hy54⟩ : ∃ z : Int32, z = pj_fi G46 171 19 := ⟨_, rfl⟩
              have ey54 : (pj_fi G46 171 19).toInt = y54.toInt := by rw [hy54]
              have ry54 : (0 : Int) ≤ y54.toInt ∧ y54.toInt ≤ 4 := by rw [hy54]; exact iG46.2.1 171 19 (0, 4) rfl
              show pj_X _ _ G46 100 [(3, .int y16), (0, .ref 171), (1, .int rk), (2, .int v2)] [] _
              refine pj_X_of (fun r h => pj_R_to (G46, 101, [(3, .int y16), (0, .ref 171), (1, .int rk), (2, .int v2)], [.int rk], 0, 0) 101 2 (fun _ => rfl) h) ?_
              refine pj_X_of (fun r h => pj_R_ifF rfl (pj_b0_leF (by omega)) h) ?_
              refine pj_X_of (fun r h => pj_R_to (G46, 24, [(2, .int (Int32.ofInt 1)), (3, .int y16), (0, .ref 171), (1, .int rk)], [], 0, 0) 24 5 (fun _ => rfl) h) ?_
              have q55 : (pj_fi G46 171 17).toInt = y51.toInt := by rw [show pj_fi G46 171 17 = y51 from hy51.symm]
              have q56 : (pj_fi G46 171 18).toInt = y52.toInt := by rw [show pj_fi G46 171 18 = y52 from hy52.symm]
              have q57 : (pj_fi G46 171 27).toInt = y53.toInt := by rw [show pj_fi G46 171 27 = y53 from hy53.symm]
              have q58 : (pj_fi G46 171 19).toInt = y54.toInt := by rw [show pj_fi G46 171 19 = y54 from hy54.symm]
              exact pj_X_sub [(0, .ref 171), (1, .int rk), (2, .int (Int32.ofInt 1))] (show List.Nodup [0, 1, 2] by decide) ⟨rfl, rfl, rfl, trivial⟩ (ih G46 iG46 kG46 (Int32.ofInt 1) ⟨by omega, by omega⟩ (show pj_qm G0 G46 1 from pj_qm_c (by omega) (show pj_qm G0 G32 2 from pj_qm_t (by omega) (pj_qm_k x0_ (jG17.1 (171, 27) (by decide)) (fun j => jG17.2.2 183 (by decide) j)) (ey31.2.2 (by omega))) eG46 (pj_vs2 (by omega) (by omega))) (by omega) (by omega) (by omega))
            | false =>
              rw [pj_cF]
              have ub38 := pj_u0_neF b38
              refine pj_X_of (fun r h => pj_R_ifF rfl b38 h) ?_
              refine pj_X_of (fun r h => pj_R_to (G32, 71, [(3, .int y16), (0, .ref 171), (1, .int rk), (2, .int v2)], [.int (Int32.ofInt 0)], 0, 0) 71 2 (fun _ => rfl) h) ?_
              have q59 : (pj_fi G32 171 17).toInt = y34.toInt := by rw [show pj_fi G32 171 17 = y34 from hy34.symm]
              have q60 : (pj_fi G32 171 18).toInt = y35.toInt := by rw [show pj_fi G32 171 18 = y35 from hy35.symm]
              have q61 : (pj_fi G32 171 27).toInt = y36.toInt := by rw [show pj_fi G32 171 27 = y36 from hy36.symm]
              have q62 : (pj_fi G32 171 19).toInt = y37.toInt := by rw [show pj_fi G32 171 19 = y37 from hy37.symm]
              exact pj_X_rt rfl rfl ⟨_, rfl, iG32, kG32, ⟨by omega, by omega⟩, (fun H hH => by subst hH; exact (⟨by omega, (pj_qp_t (pj_qp_k x0_.1 (jG17.1 (171, 27) (by decide)) (fun j => jG17.2.2 183 (by decide) j)) ey31.2.1), (fun q => absurd q (by omega))⟩)), rfl⟩
          | false =>
            rw [pj_cF]
            have ub25 := pj_u0_geF b25
            refine pj_X_of (fun r h => pj_R_ifF rfl b25 h) ?_
            refine pj_X_of (fun r h => pj_R_to (G17, 59, [(3, .int y16), (0, .ref 171), (1, .int rk), (2, .int v2)], [.int (Int32.ofInt 1)], 0, 0) 59 2 (fun _ => rfl) h) ?_
            have q63 : (pj_fi G17 171 17).toInt = y21.toInt := by rw [show pj_fi G17 171 17 = y21 from hy21.symm]
            have q64 : (pj_fi G17 171 18).toInt = y22.toInt := by rw [show pj_fi G17 171 18 = y22 from hy22.symm]
            have q65 : (pj_fi G17 171 27).toInt = y23.toInt := by rw [show pj_fi G17 171 27 = y23 from hy23.symm]
            have q66 : (pj_fi G17 171 19).toInt = y24.toInt := by rw [show pj_fi G17 171 19 = y24 from hy24.symm]
            exact pj_X_rt rfl rfl ⟨_, rfl, iG17, kG17, ⟨by omega, by omega⟩, (fun H hH => by subst hH; exact (⟨by omega, (pj_qp_k x0_.1 (jG17.1 (171, 27) (by decide)) (fun j => jG17.2.2 183 (by decide) j)), (fun q => (pj_qm_k x0_ (jG17.1 (171, 27) (by decide)) (fun j => jG17.2.2 183 (by decide) j)))⟩)), rfl⟩
        | false =>
          rw [pj_cF]
          have ub11 := pj_u_neF b11
          refine pj_X_of (fun r h => pj_R_icF rfl b11 h) ?_
          refine pj_X_of (fun r h => pj_R_to (G, 50, [(0, .ref 171), (1, .int rk), (2, .int v2)], [.retAddr 13, .ref 171], 0, 0) 50 3 (fun _ => rfl) h) ?_
          have q67 : (pj_fi G 171 17).toInt = y1.toInt := by rw [show pj_fi G 171 17 = y1 from hy1.symm]
          have q68 : (pj_fi G 171 18).toInt = y2.toInt := by rw [show pj_fi G 171 18 = y2 from hy2.symm]
          have q69 : (pj_fi G 171 27).toInt = y3.toInt := by rw [show pj_fi G 171 27 = y3 from hy3.symm]
          have q70 : (pj_fi G 171 19).toInt = y4.toInt := by rw [show pj_fi G 171 19 = y4 from hy4.symm]
          refine pj_X_ca (vs := [.ref 171, .retAddr 13]) rfl (fun _ => rfl) ⟨Nat.le_of_ble_eq_true rfl, Nat.le_of_ble_eq_true rfl, pj_T_rcv hI rfl⟩ ⟨rfl, rfl⟩ (pj_Y_up (by omega) (ct_185_s13x G hI)) ?_
          rintro _ G72 ⟨y71, rfl, iG72, jG72, ry71, ey71, fy71⟩
          replace ey71 := ey71 _ rfl
          rw [← fy71, pj_bd_e]
          have kG72 : pj_kpt pj_MY G0 G72 := pj_kpt_t hK (pj_kpt_s jG72 rfl)
          have q73 : (pj_fi G72 171 18).toInt = (pj_fi G 171 18).toInt := by rw [jG72.1 (171, 18) (by decide)]
          have q74 : (pj_fi G72 171 27).toInt = (pj_fi G 171 27).toInt := by rw [jG72.1 (171, 27) (by decide)]
          have q75 : (pj_fi G72 171 19).toInt = (pj_fi G 171 19).toInt := by rw [jG72.1 (171, 19) (by decide)]
          obtain ⟨y76, hy76⟩ : ∃ z : Int32, z = pj_fi G72 171 17 := ⟨_, rfl⟩
          have ey76 : (pj_fi G72 171 17).toInt = y76.toInt := by rw [hy76]
          have ry76 : (0 : Int) ≤ y76.toInt ∧ y76.toInt ≤ 80 := by rw [hy76]; exact iG72.2.1 171 17 (0, 80) rfl
          obtain ⟨y77, hy77⟩ : ∃ z : Int32, z = pj_fi G72 171 18 := ⟨_, rfl⟩
          have ey77 : (pj_fi G72 171 18).toInt = y77.toInt := by rw [hy77]
          have ry77 : (0 : Int) ≤ y77.toInt ∧ y77.toInt ≤ 80 := by rw [hy77]; exact iG72.2.1 171 18 (0, 80) rfl
          obtain ⟨y78, hy78⟩ : ∃ z : Int32, z = pj_fi G72 171 27 := ⟨_, rfl⟩
          have ey78 : (pj_fi G72 171 27).toInt = y78.toInt := by rw [hy78]
          have ry78 : (0 : Int) ≤ y78.toInt ∧ y78.toInt ≤ 80 := by rw [hy78]; exact iG72.2.1 171 27 (0, 80) rfl
          obtain ⟨y79, hy79⟩ : ∃ z : Int32, z = pj_fi G72 171 19 := ⟨_, rfl⟩
          have ey79 : (pj_fi G72 171 19).toInt = y79.toInt := by rw [hy79]
          have ry79 : (0 : Int) ≤ y79.toInt ∧ y79.toInt ≤ 4 := by rw [hy79]; exact iG72.2.1 171 19 (0, 4) rfl
          show pj_X _ _ G72 53 [(0, .ref 171), (1, .int rk), (2, .int v2)] [.int y71] _
          refine pj_X_of (fun r h => pj_R_to (G72, 55, [(3, .int y71), (0, .ref 171), (1, .int rk), (2, .int v2)], [.int y71], 0, 0) 55 3 (fun _ => rfl) h) ?_
          cases b80 : pj_c1 .ge y71 0 with
          | true =>
            rw [pj_cT]
            have ub80 := pj_u0_geT b80
            refine pj_X_of (fun r h => pj_R_ifT 60 rfl rfl b80 h) ?_
            refine pj_X_of (fun r h => pj_R_to (G72, 64, [(3, .int y71), (0, .ref 171), (1, .int rk), (2, .int v2)], [.int (rk + (Int32.ofInt 1)), .ref 171], 0, 0) 64 5 (fun _ => rfl) h) ?_
            obtain ⟨z81, hz81⟩ : ∃ z : Int32, z = rk + (Int32.ofInt 1) := ⟨_, rfl⟩
            refine pj_X_eqi hz81.symm ?_
            rw [← hz81, pj_nm_e]
            have fz81_0 : z81.toInt = rk.toInt + (Int32.ofInt 1).toInt := by rw [hz81]; exact pj_addI (by have := pj_i32 rk; have := pj_i32 (Int32.ofInt 1); omega) (by have := pj_i32 rk; have := pj_i32 (Int32.ofInt 1); omega)
            have q82 : (pj_fi G72 171 17).toInt = y76.toInt := by rw [show pj_fi G72 171 17 = y76 from hy76.symm]
            have q83 : (pj_fi G72 171 18).toInt = y77.toInt := by rw [show pj_fi G72 171 18 = y77 from hy77.symm]
            have q84 : (pj_fi G72 171 27).toInt = y78.toInt := by rw [show pj_fi G72 171 27 = y78 from hy78.symm]
            have q85 : (pj_fi G72 171 19).toInt = y79.toInt := by rw [show pj_fi G72 171 19 = y79 from hy79.symm]
            refine pj_X_ca (vs := [.ref 171, .int z81]) rfl (fun _ => rfl) ⟨Nat.le_of_ble_eq_true rfl, Nat.le_of_ble_eq_true rfl, pj_T_rcv iG72 rfl⟩ ⟨rfl, rfl⟩ (pj_Y_up (by omega) (p0_.2 G72 z81 iG72 ⟨by omega, by omega⟩ (by omega) (by omega) (by omega))) ?_
            rintro _ G87 ⟨y86, rfl, iG87, jG87, ry86, ey86, fy86⟩
            replace ey86 := ey86 _ rfl
            rw [← fy86, pj_bd_e]
            have kG87 : pj_kpt pj_MY G0 G87 := pj_kpt_t kG72 (pj_kpt_s jG87 rfl)
            have q88 : (pj_fi G87 171 18).toInt = (pj_fi G72 171 18).toInt := by rw [jG87.1 (171, 18) (by decide)]
            obtain ⟨y89, hy89⟩ : ∃ z : Int32, z = pj_fi G87 171 17 := ⟨_, rfl⟩
            have ey89 : (pj_fi G87 171 17).toInt = y89.toInt := by rw [hy89]
            have ry89 : (0 : Int) ≤ y89.toInt ∧ y89.toInt ≤ 80 := by rw [hy89]; exact iG87.2.1 171 17 (0, 80) rfl
            obtain ⟨y90, hy90⟩ : ∃ z : Int32, z = pj_fi G87 171 18 := ⟨_, rfl⟩
            have ey90 : (pj_fi G87 171 18).toInt = y90.toInt := by rw [hy90]
            have ry90 : (0 : Int) ≤ y90.toInt ∧ y90.toInt ≤ 80 := by rw [hy90]; exact iG87.2.1 171 18 (0, 80) rfl
            obtain ⟨y91, hy91⟩ : ∃ z : Int32, z = pj_fi G87 171 27 := ⟨_, rfl⟩
            have ey91 : (pj_fi G87 171 27).toInt = y91.toInt := by rw [hy91]
            have ry91 : (0 : Int) ≤ y91.toInt ∧ y91.toInt ≤ 80 := by rw [hy91]; exact iG87.2.1 171 27 (0, 80) rfl
            obtain ⟨y92, hy92⟩ : ∃ z : Int32, z = pj_fi G87 171 19 := ⟨_, rfl⟩
            have ey92 : (pj_fi G87 171 19).toInt = y92.toInt := by rw [hy92]
            have ry92 : (0 : Int) ≤ y92.toInt ∧ y92.toInt ≤ 4 := by rw [hy92]; exact iG87.2.1 171 19 (0, 4) rfl
            show pj_X _ _ G87 67 [(3, .int y71), (0, .ref 171), (1, .int rk), (2, .int v2)] [.int y86] _
            cases b93 : pj_c1 .ne y86 0 with
            | true =>
              rw [pj_cT]
              have ub93 := pj_u0_neT b93
              refine pj_X_of (fun r h => pj_R_ifT 72 rfl rfl b93 h) ?_
              refine pj_X_of (fun r h => pj_R_to (G87, 78, [(3, .int y71), (0, .ref 171), (1, .int rk), (2, .int v2)], [.int (((Int16.ofInt 2000).toInt32) + y71), .ref 171], 0, 0) 78 5 (fun _ => rfl) h) ?_
              obtain ⟨z94, hz94⟩ : ∃ z : Int32, z = ((Int16.ofInt 2000).toInt32) + y71 := ⟨_, rfl⟩
              refine pj_X_eqi hz94.symm ?_
              rw [← hz94, pj_nm_e]
              have fz94_0 : z94.toInt = ((Int16.ofInt 2000).toInt32).toInt + y71.toInt := by rw [hz94]; exact pj_addI (by have := pj_i32 ((Int16.ofInt 2000).toInt32); have := pj_i32 y71; omega) (by have := pj_i32 ((Int16.ofInt 2000).toInt32); have := pj_i32 y71; omega)
              refine pj_X_of (fun r h => pj_R_to (G87, 79, [(3, .int y71), (0, .ref 171), (1, .int rk), (2, .int v2)], [.int rk, .int z94, .ref 171], 0, 0) 79 2 (fun _ => rfl) h) ?_
              refine pj_X_of (fun r h => pj_R_ifT 86 rfl rfl (pj_b0_neT (by omega)) h) ?_
              refine pj_X_of (fun r h => pj_R_to (G87, 88, [(3, .int y71), (0, .ref 171), (1, .int rk), (2, .int v2)], [.int (Int32.ofInt 1), .int rk, .int z94, .ref 171], 0, 0) 88 3 (fun _ => rfl) h) ?_
              refine pj_X_of (fun r h => pj_R_icF rfl (pj_b_neF (by omega)) h) ?_
              refine pj_X_of (fun r h => pj_R_to (G87, 97, [(3, .int y71), (0, .ref 171), (1, .int rk), (2, .int v2)], [.int (z94 + (Int32.ofInt 3)), .ref 171], 0, 0) 97 4 (fun _ => rfl) h) ?_
              obtain ⟨z95, hz95⟩ : ∃ z : Int32, z = z94 + (Int32.ofInt 3) := ⟨_, rfl⟩
              refine pj_X_eqi hz95.symm ?_
              rw [← hz95, pj_nm_e]
              have fz95_0 : z95.toInt = z94.toInt + (Int32.ofInt 3).toInt := by rw [hz95]; exact pj_addI (by have := pj_i32 z94; have := pj_i32 (Int32.ofInt 3); omega) (by have := pj_i32 z94; have := pj_i32 (Int32.ofInt 3); omega)
              have q96 : (pj_fi G87 171 17).toInt = y89.toInt := by rw [show pj_fi G87 171 17 = y89 from hy89.symm]
              have q97 : (pj_fi G87 171 18).toInt = y90.toInt := by rw [show pj_fi G87 171 18 = y90 from hy90.symm]
              have q98 : (pj_fi G87 171 27).toInt = y91.toInt := by rw [show pj_fi G87 171 27 = y91 from hy91.symm]
              have q99 : (pj_fi G87 171 19).toInt = y92.toInt := by rw [show pj_fi G87 171 19 = y92 from hy92.symm]
              refine pj_X_ca (vs := [.ref 171, .int z95]) rfl (fun _ => rfl) ⟨Nat.le_of_ble_eq_true rfl, Nat.le_of_ble_eq_true rfl, pj_T_rcv iG87 rfl⟩ ⟨rfl, rfl⟩ (pj_Y_up (by omega) (ct_197x G87 iG87 z95 (by omega) (by omega))) ?_
              rintro _ G101 ⟨rfl, iG101, jG101, eG101, fy100⟩
              replace eG101 := eG101 _ rfl
              rw [← fy100, pj_nm_e]
              have kG101 : pj_kpt pj_MY G0 G101 := pj_kpt_t kG87 (pj_kpt_s jG101 rfl)
              have q102 : (pj_fi G101 171 17).toInt = (pj_fi G87 171 17).toInt := by rw [jG101.1 (171, 17) (by decide)]
              have q103 : (pj_fi G101 171 18).toInt = (pj_fi G87 171 18).toInt := by rw [jG101.1 (171, 18) (by decide)]
              have q104 : (pj_fi G101 171 19).toInt = (pj_fi G87 171 19).toInt := by rw [jG101.1 (171, 19) (by decide)]
              have q105 := eG101.1
              obtain ⟨y106, hy106⟩ : ∃ z : Int32, z = pj_fi G101 171 17 := ⟨_, rfl⟩
              have ey106 : (pj_fi G101 171 17).toInt = y106.toInt := by rw [hy106]
              have ry106 : (0 : Int) ≤ y106.toInt ∧ y106.toInt ≤ 80 := by rw [hy106]; exact iG101.2.1 171 17 (0, 80) rfl
              obtain ⟨y107, hy107⟩ : ∃ z : Int32, z = pj_fi G101 171 18 := ⟨_, rfl⟩
              have ey107 : (pj_fi G101 171 18).toInt = y107.toInt := by rw [hy107]
              have ry107 : (0 : Int) ≤ y107.toInt ∧ y107.toInt ≤ 80 := by rw [hy107]; exact iG101.2.1 171 18 (0, 80) rfl
              obtain ⟨y108, hy108⟩ : ∃ z : Int32, z = pj_fi G101 171 27 := ⟨_, rfl⟩
              have ey108 : (pj_fi G101 171 27).toInt = y108.toInt := by rw [hy108]
              have ry108 : (0 : Int) ≤ y108.toInt ∧ y108.toInt ≤ 80 := by rw [hy108]; exact iG101.2.1 171 27 (0, 80) rfl
              obtain ⟨y109, hy109⟩ : ∃ z : Int32, z = pj_fi G101 171 19 := ⟨_, rfl⟩
              have ey109 : (pj_fi G101 171 19).toInt = y109.toInt := by rw [hy109]
              have ry109 : (0 : Int) ≤ y109.toInt ∧ y109.toInt ≤ 4 := by rw [hy109]; exact iG101.2.1 171 19 (0, 4) rfl
              show pj_X _ _ G101 100 [(3, .int y71), (0, .ref 171), (1, .int rk), (2, .int v2)] [] _
              refine pj_X_of (fun r h => pj_R_to (G101, 101, [(3, .int y71), (0, .ref 171), (1, .int rk), (2, .int v2)], [.int rk], 0, 0) 101 2 (fun _ => rfl) h) ?_
              refine pj_X_of (fun r h => pj_R_ifF rfl (pj_b0_leF (by omega)) h) ?_
              refine pj_X_of (fun r h => pj_R_to (G101, 24, [(2, .int (Int32.ofInt 1)), (3, .int y71), (0, .ref 171), (1, .int rk)], [], 0, 0) 24 5 (fun _ => rfl) h) ?_
              have q110 : (pj_fi G101 171 17).toInt = y106.toInt := by rw [show pj_fi G101 171 17 = y106 from hy106.symm]
              have q111 : (pj_fi G101 171 18).toInt = y107.toInt := by rw [show pj_fi G101 171 18 = y107 from hy107.symm]
              have q112 : (pj_fi G101 171 27).toInt = y108.toInt := by rw [show pj_fi G101 171 27 = y108 from hy108.symm]
              have q113 : (pj_fi G101 171 19).toInt = y109.toInt := by rw [show pj_fi G101 171 19 = y109 from hy109.symm]
              exact pj_X_sub [(0, .ref 171), (1, .int rk), (2, .int (Int32.ofInt 1))] (show List.Nodup [0, 1, 2] by decide) ⟨rfl, rfl, rfl, trivial⟩ (ih G101 iG101 kG101 (Int32.ofInt 1) ⟨by omega, by omega⟩ (show pj_qm G0 G101 1 from pj_qm_c (by omega) (show pj_qm G0 G87 2 from pj_qm_t (by omega) (pj_qm_k x0_ (jG72.1 (171, 27) (by decide)) (fun j => jG72.2.2 183 (by decide) j)) (ey86.2.2 (by omega))) eG101 (pj_vs2 (by omega) (by omega))) (by omega) (by omega) (by omega))
            | false =>
              rw [pj_cF]
              have ub93 := pj_u0_neF b93
              refine pj_X_of (fun r h => pj_R_ifF rfl b93 h) ?_
              refine pj_X_of (fun r h => pj_R_to (G87, 71, [(3, .int y71), (0, .ref 171), (1, .int rk), (2, .int v2)], [.int (Int32.ofInt 0)], 0, 0) 71 2 (fun _ => rfl) h) ?_
              have q114 : (pj_fi G87 171 17).toInt = y89.toInt := by rw [show pj_fi G87 171 17 = y89 from hy89.symm]
              have q115 : (pj_fi G87 171 18).toInt = y90.toInt := by rw [show pj_fi G87 171 18 = y90 from hy90.symm]
              have q116 : (pj_fi G87 171 27).toInt = y91.toInt := by rw [show pj_fi G87 171 27 = y91 from hy91.symm]
              have q117 : (pj_fi G87 171 19).toInt = y92.toInt := by rw [show pj_fi G87 171 19 = y92 from hy92.symm]
              exact pj_X_rt rfl rfl ⟨_, rfl, iG87, kG87, ⟨by omega, by omega⟩, (fun H hH => by subst hH; exact (⟨by omega, (pj_qp_t (pj_qp_k x0_.1 (jG72.1 (171, 27) (by decide)) (fun j => jG72.2.2 183 (by decide) j)) ey86.2.1), (fun q => absurd q (by omega))⟩)), rfl⟩
          | false =>
            rw [pj_cF]
            have ub80 := pj_u0_geF b80
            refine pj_X_of (fun r h => pj_R_ifF rfl b80 h) ?_
            refine pj_X_of (fun r h => pj_R_to (G72, 59, [(3, .int y71), (0, .ref 171), (1, .int rk), (2, .int v2)], [.int (Int32.ofInt 1)], 0, 0) 59 2 (fun _ => rfl) h) ?_
            have q118 : (pj_fi G72 171 17).toInt = y76.toInt := by rw [show pj_fi G72 171 17 = y76 from hy76.symm]
            have q119 : (pj_fi G72 171 18).toInt = y77.toInt := by rw [show pj_fi G72 171 18 = y77 from hy77.symm]
            have q120 : (pj_fi G72 171 27).toInt = y78.toInt := by rw [show pj_fi G72 171 27 = y78 from hy78.symm]
            have q121 : (pj_fi G72 171 19).toInt = y79.toInt := by rw [show pj_fi G72 171 19 = y79 from hy79.symm]
            exact pj_X_rt rfl rfl ⟨_, rfl, iG72, kG72, ⟨by omega, by omega⟩, (fun H hH => by subst hH; exact (⟨by omega, (pj_qp_k x0_.1 (jG72.1 (171, 27) (by decide)) (fun j => jG72.2.2 183 (by decide) j)), (fun q => (pj_qm_k x0_ (jG72.1 (171, 27) (by decide)) (fun j => jG72.2.2 183 (by decide) j)))⟩)), rfl⟩
      | false =>
        rw [pj_cF]
        have ub10 := pj_u0_neF b10
        refine pj_X_of (fun r h => pj_R_ifF rfl b10 h) ?_
        refine pj_X_of (fun r h => pj_R_to (G, 50, [(0, .ref 171), (1, .int rk), (2, .int v2)], [.retAddr 12, .ref 171], 0, 0) 50 3 (fun _ => rfl) h) ?_
        have q122 : (pj_fi G 171 17).toInt = y1.toInt := by rw [show pj_fi G 171 17 = y1 from hy1.symm]
        have q123 : (pj_fi G 171 18).toInt = y2.toInt := by rw [show pj_fi G 171 18 = y2 from hy2.symm]
        have q124 : (pj_fi G 171 27).toInt = y3.toInt := by rw [show pj_fi G 171 27 = y3 from hy3.symm]
        have q125 : (pj_fi G 171 19).toInt = y4.toInt := by rw [show pj_fi G 171 19 = y4 from hy4.symm]
        refine pj_X_ca (vs := [.ref 171, .retAddr 12]) rfl (fun _ => rfl) ⟨Nat.le_of_ble_eq_true rfl, Nat.le_of_ble_eq_true rfl, pj_T_rcv hI rfl⟩ ⟨rfl, rfl⟩ (pj_Y_up (by omega) (ct_185_s12x G hI)) ?_
        rintro _ G127 ⟨y126, rfl, iG127, jG127, ry126, ey126, fy126⟩
        replace ey126 := ey126 _ rfl
        rw [← fy126, pj_bd_e]
        have kG127 : pj_kpt pj_MY G0 G127 := pj_kpt_t hK (pj_kpt_s jG127 rfl)
        have q128 : (pj_fi G127 171 18).toInt = (pj_fi G 171 18).toInt := by rw [jG127.1 (171, 18) (by decide)]
        have q129 : (pj_fi G127 171 27).toInt = (pj_fi G 171 27).toInt := by rw [jG127.1 (171, 27) (by decide)]
        have q130 : (pj_fi G127 171 19).toInt = (pj_fi G 171 19).toInt := by rw [jG127.1 (171, 19) (by decide)]
        obtain ⟨y131, hy131⟩ : ∃ z : Int32, z = pj_fi G127 171 17 := ⟨_, rfl⟩
        have ey131 : (pj_fi G127 171 17).toInt = y131.toInt := by rw [hy131]
        have ry131 : (0 : Int) ≤ y131.toInt ∧ y131.toInt ≤ 80 := by rw [hy131]; exact iG127.2.1 171 17 (0, 80) rfl
        obtain ⟨y132, hy132⟩ : ∃ z : Int32, z = pj_fi G127 171 18 := ⟨_, rfl⟩
        have ey132 : (pj_fi G127 171 18).toInt = y132.toInt := by rw [hy132]
        have ry132 : (0 : Int) ≤ y132.toInt ∧ y132.toInt ≤ 80 := by rw [hy132]; exact iG127.2.1 171 18 (0, 80) rfl
        obtain ⟨y133, hy133⟩ : ∃ z : Int32, z = pj_fi G127 171 27 := ⟨_, rfl⟩
        have ey133 : (pj_fi G127 171 27).toInt = y133.toInt := by rw [hy133]
        have ry133 : (0 : Int) ≤ y133.toInt ∧ y133.toInt ≤ 80 := by rw [hy133]; exact iG127.2.1 171 27 (0, 80) rfl
        obtain ⟨y134, hy134⟩ : ∃ z : Int32, z = pj_fi G127 171 19 := ⟨_, rfl⟩
        have ey134 : (pj_fi G127 171 19).toInt = y134.toInt := by rw [hy134]
        have ry134 : (0 : Int) ≤ y134.toInt ∧ y134.toInt ≤ 4 := by rw [hy134]; exact iG127.2.1 171 19 (0, 4) rfl
        show pj_X _ _ G127 53 [(0, .ref 171), (1, .int rk), (2, .int v2)] [.int y126] _
        refine pj_X_of (fun r h => pj_R_to (G127, 55, [(3, .int y126), (0, .ref 171), (1, .int rk), (2, .int v2)], [.int y126], 0, 0) 55 3 (fun _ => rfl) h) ?_
        cases b135 : pj_c1 .ge y126 0 with
        | true =>
          rw [pj_cT]
          have ub135 := pj_u0_geT b135
          refine pj_X_of (fun r h => pj_R_ifT 60 rfl rfl b135 h) ?_
          refine pj_X_of (fun r h => pj_R_to (G127, 64, [(3, .int y126), (0, .ref 171), (1, .int rk), (2, .int v2)], [.int (rk + (Int32.ofInt 1)), .ref 171], 0, 0) 64 5 (fun _ => rfl) h) ?_
          obtain ⟨z136, hz136⟩ : ∃ z : Int32, z = rk + (Int32.ofInt 1) := ⟨_, rfl⟩
          refine pj_X_eqi hz136.symm ?_
          rw [← hz136, pj_nm_e]
          have fz136_0 : z136.toInt = rk.toInt + (Int32.ofInt 1).toInt := by rw [hz136]; exact pj_addI (by have := pj_i32 rk; have := pj_i32 (Int32.ofInt 1); omega) (by have := pj_i32 rk; have := pj_i32 (Int32.ofInt 1); omega)
          have q137 : (pj_fi G127 171 17).toInt = y131.toInt := by rw [show pj_fi G127 171 17 = y131 from hy131.symm]
          have q138 : (pj_fi G127 171 18).toInt = y132.toInt := by rw [show pj_fi G127 171 18 = y132 from hy132.symm]
          have q139 : (pj_fi G127 171 27).toInt = y133.toInt := by rw [show pj_fi G127 171 27 = y133 from hy133.symm]
          have q140 : (pj_fi G127 171 19).toInt = y134.toInt := by rw [show pj_fi G127 171 19 = y134 from hy134.symm]
          refine pj_X_ca (vs := [.ref 171, .int z136]) rfl (fun _ => rfl) ⟨Nat.le_of_ble_eq_true rfl, Nat.le_of_ble_eq_true rfl, pj_T_rcv iG127 rfl⟩ ⟨rfl, rfl⟩ (pj_Y_up (by omega) (p0_.2 G127 z136 iG127 ⟨by omega, by omega⟩ (by omega) (by omega) (by omega))) ?_
          rintro _ G142 ⟨y141, rfl, iG142, jG142, ry141, ey141, fy141⟩
          replace ey141 := ey141 _ rfl
          rw [← fy141, pj_bd_e]
          have kG142 : pj_kpt pj_MY G0 G142 := pj_kpt_t kG127 (pj_kpt_s jG142 rfl)
          have q143 : (pj_fi G142 171 18).toInt = (pj_fi G127 171 18).toInt := by rw [jG142.1 (171, 18) (by decide)]
          obtain ⟨y144, hy144⟩ : ∃ z : Int32, z = pj_fi G142 171 17 := ⟨_, rfl⟩
          have ey144 : (pj_fi G142 171 17).toInt = y144.toInt := by rw [hy144]
          have ry144 : (0 : Int) ≤ y144.toInt ∧ y144.toInt ≤ 80 := by rw [hy144]; exact iG142.2.1 171 17 (0, 80) rfl
          obtain ⟨y145, hy145⟩ : ∃ z : Int32, z = pj_fi G142 171 18 := ⟨_, rfl⟩
          have ey145 : (pj_fi G142 171 18).toInt = y145.toInt := by rw [hy145]
          have ry145 : (0 : Int) ≤ y145.toInt ∧ y145.toInt ≤ 80 := by rw [hy145]; exact iG142.2.1 171 18 (0, 80) rfl
          obtain ⟨y146, hy146⟩ : ∃ z : Int32, z = pj_fi G142 171 27 := ⟨_, rfl⟩
          have ey146 : (pj_fi G142 171 27).toInt = y146.toInt := by rw [hy146]
          have ry146 : (0 : Int) ≤ y146.toInt ∧ y146.toInt ≤ 80 := by rw [hy146]; exact iG142.2.1 171 27 (0, 80) rfl
          obtain ⟨y147, hy147⟩ : ∃ z : Int32, z = pj_fi G142 171 19 := ⟨_, rfl⟩
          have ey147 : (pj_fi G142 171 19).toInt = y147.toInt := by rw [hy147]
          have ry147 : (0 : Int) ≤ y147.toInt ∧ y147.toInt ≤ 4 := by rw [hy147]; exact iG142.2.1 171 19 (0, 4) rfl
          show pj_X _ _ G142 67 [(3, .int y126), (0, .ref 171), (1, .int rk), (2, .int v2)] [.int y141] _
          cases b148 : pj_c1 .ne y141 0 with
          | true =>
            rw [pj_cT]
            have ub148 := pj_u0_neT b148
            refine pj_X_of (fun r h => pj_R_ifT 72 rfl rfl b148 h) ?_
            refine pj_X_of (fun r h => pj_R_to (G142, 78, [(3, .int y126), (0, .ref 171), (1, .int rk), (2, .int v2)], [.int (((Int16.ofInt 2000).toInt32) + y126), .ref 171], 0, 0) 78 5 (fun _ => rfl) h) ?_
            obtain ⟨z149, hz149⟩ : ∃ z : Int32, z = ((Int16.ofInt 2000).toInt32) + y126 := ⟨_, rfl⟩
            refine pj_X_eqi hz149.symm ?_
            rw [← hz149, pj_nm_e]
            have fz149_0 : z149.toInt = ((Int16.ofInt 2000).toInt32).toInt + y126.toInt := by rw [hz149]; exact pj_addI (by have := pj_i32 ((Int16.ofInt 2000).toInt32); have := pj_i32 y126; omega) (by have := pj_i32 ((Int16.ofInt 2000).toInt32); have := pj_i32 y126; omega)
            refine pj_X_of (fun r h => pj_R_to (G142, 79, [(3, .int y126), (0, .ref 171), (1, .int rk), (2, .int v2)], [.int rk, .int z149, .ref 171], 0, 0) 79 2 (fun _ => rfl) h) ?_
            refine pj_X_of (fun r h => pj_R_ifF rfl (pj_b0_neF (by omega)) h) ?_
            refine pj_X_of (fun r h => pj_R_to (G142, 97, [(3, .int y126), (0, .ref 171), (1, .int rk), (2, .int v2)], [.int (z149 + (Int32.ofInt 0)), .ref 171], 0, 0) 97 4 (fun _ => rfl) h) ?_
            obtain ⟨z150, hz150⟩ : ∃ z : Int32, z = z149 + (Int32.ofInt 0) := ⟨_, rfl⟩
            refine pj_X_eqi hz150.symm ?_
            rw [← hz150, pj_nm_e]
            have fz150_0 : z150.toInt = z149.toInt + (Int32.ofInt 0).toInt := by rw [hz150]; exact pj_addI (by have := pj_i32 z149; have := pj_i32 (Int32.ofInt 0); omega) (by have := pj_i32 z149; have := pj_i32 (Int32.ofInt 0); omega)
            have q151 : (pj_fi G142 171 17).toInt = y144.toInt := by rw [show pj_fi G142 171 17 = y144 from hy144.symm]
            have q152 : (pj_fi G142 171 18).toInt = y145.toInt := by rw [show pj_fi G142 171 18 = y145 from hy145.symm]
            have q153 : (pj_fi G142 171 27).toInt = y146.toInt := by rw [show pj_fi G142 171 27 = y146 from hy146.symm]
            have q154 : (pj_fi G142 171 19).toInt = y147.toInt := by rw [show pj_fi G142 171 19 = y147 from hy147.symm]
            refine pj_X_ca (vs := [.ref 171, .int z150]) rfl (fun _ => rfl) ⟨Nat.le_of_ble_eq_true rfl, Nat.le_of_ble_eq_true rfl, pj_T_rcv iG142 rfl⟩ ⟨rfl, rfl⟩ (pj_Y_up (by omega) (ct_197x G142 iG142 z150 (by omega) (by omega))) ?_
            rintro _ G156 ⟨rfl, iG156, jG156, eG156, fy155⟩
            replace eG156 := eG156 _ rfl
            rw [← fy155, pj_nm_e]
            have kG156 : pj_kpt pj_MY G0 G156 := pj_kpt_t kG142 (pj_kpt_s jG156 rfl)
            have q157 : (pj_fi G156 171 17).toInt = (pj_fi G142 171 17).toInt := by rw [jG156.1 (171, 17) (by decide)]
            have q158 : (pj_fi G156 171 18).toInt = (pj_fi G142 171 18).toInt := by rw [jG156.1 (171, 18) (by decide)]
            have q159 : (pj_fi G156 171 19).toInt = (pj_fi G142 171 19).toInt := by rw [jG156.1 (171, 19) (by decide)]
            have q160 := eG156.1
            obtain ⟨y161, hy161⟩ : ∃ z : Int32, z = pj_fi G156 171 17 := ⟨_, rfl⟩
            have ey161 : (pj_fi G156 171 17).toInt = y161.toInt := by rw [hy161]
            have ry161 : (0 : Int) ≤ y161.toInt ∧ y161.toInt ≤ 80 := by rw [hy161]; exact iG156.2.1 171 17 (0, 80) rfl
            obtain ⟨y162, hy162⟩ : ∃ z : Int32, z = pj_fi G156 171 18 := ⟨_, rfl⟩
            have ey162 : (pj_fi G156 171 18).toInt = y162.toInt := by rw [hy162]
            have ry162 : (0 : Int) ≤ y162.toInt ∧ y162.toInt ≤ 80 := by rw [hy162]; exact iG156.2.1 171 18 (0, 80) rfl
            obtain ⟨y163, hy163⟩ : ∃ z : Int32, z = pj_fi G156 171 27 := ⟨_, rfl⟩
            have ey163 : (pj_fi G156 171 27).toInt = y163.toInt := by rw [hy163]
            have ry163 : (0 : Int) ≤ y163.toInt ∧ y163.toInt ≤ 80 := by rw [hy163]; exact iG156.2.1 171 27 (0, 80) rfl
            obtain ⟨y164, hy164⟩ : ∃ z : Int32, z = pj_fi G156 171 19 := ⟨_, rfl⟩
            have ey164 : (pj_fi G156 171 19).toInt = y164.toInt := by rw [hy164]
            have ry164 : (0 : Int) ≤ y164.toInt ∧ y164.toInt ≤ 4 := by rw [hy164]; exact iG156.2.1 171 19 (0, 4) rfl
            show pj_X _ _ G156 100 [(3, .int y126), (0, .ref 171), (1, .int rk), (2, .int v2)] [] _
            refine pj_X_of (fun r h => pj_R_to (G156, 101, [(3, .int y126), (0, .ref 171), (1, .int rk), (2, .int v2)], [.int rk], 0, 0) 101 2 (fun _ => rfl) h) ?_
            refine pj_X_of (fun r h => pj_R_ifT 108 rfl rfl (pj_b0_leT (by omega)) h) ?_
            refine pj_X_of (fun r h => pj_R_to (G156, 24, [(2, .int (Int32.ofInt 0)), (3, .int y126), (0, .ref 171), (1, .int rk)], [], 0, 0) 24 4 (fun _ => rfl) h) ?_
            have q165 : (pj_fi G156 171 17).toInt = y161.toInt := by rw [show pj_fi G156 171 17 = y161 from hy161.symm]
            have q166 : (pj_fi G156 171 18).toInt = y162.toInt := by rw [show pj_fi G156 171 18 = y162 from hy162.symm]
            have q167 : (pj_fi G156 171 27).toInt = y163.toInt := by rw [show pj_fi G156 171 27 = y163 from hy163.symm]
            have q168 : (pj_fi G156 171 19).toInt = y164.toInt := by rw [show pj_fi G156 171 19 = y164 from hy164.symm]
            exact pj_X_sub [(0, .ref 171), (1, .int rk), (2, .int (Int32.ofInt 0))] (show List.Nodup [0, 1, 2] by decide) ⟨rfl, rfl, rfl, trivial⟩ (ih G156 iG156 kG156 (Int32.ofInt 0) ⟨by omega, by omega⟩ (show pj_qm G0 G156 1 from pj_qm_c (by omega) (show pj_qm G0 G142 2 from pj_qm_t (by omega) (pj_qm_k x0_ (jG127.1 (171, 27) (by decide)) (fun j => jG127.2.2 183 (by decide) j)) (ey141.2.2 (by omega))) eG156 (pj_vs2 (by omega) (by omega))) (by omega) (by omega) (by omega))
          | false =>
            rw [pj_cF]
            have ub148 := pj_u0_neF b148
            refine pj_X_of (fun r h => pj_R_ifF rfl b148 h) ?_
            refine pj_X_of (fun r h => pj_R_to (G142, 71, [(3, .int y126), (0, .ref 171), (1, .int rk), (2, .int v2)], [.int (Int32.ofInt 0)], 0, 0) 71 2 (fun _ => rfl) h) ?_
            have q169 : (pj_fi G142 171 17).toInt = y144.toInt := by rw [show pj_fi G142 171 17 = y144 from hy144.symm]
            have q170 : (pj_fi G142 171 18).toInt = y145.toInt := by rw [show pj_fi G142 171 18 = y145 from hy145.symm]
            have q171 : (pj_fi G142 171 27).toInt = y146.toInt := by rw [show pj_fi G142 171 27 = y146 from hy146.symm]
            have q172 : (pj_fi G142 171 19).toInt = y147.toInt := by rw [show pj_fi G142 171 19 = y147 from hy147.symm]
            exact pj_X_rt rfl rfl ⟨_, rfl, iG142, kG142, ⟨by omega, by omega⟩, (fun H hH => by subst hH; exact (⟨by omega, (pj_qp_t (pj_qp_k x0_.1 (jG127.1 (171, 27) (by decide)) (fun j => jG127.2.2 183 (by decide) j)) ey141.2.1), (fun q => absurd q (by omega))⟩)), rfl⟩
        | false =>
          rw [pj_cF]
          have ub135 := pj_u0_geF b135
          refine pj_X_of (fun r h => pj_R_ifF rfl b135 h) ?_
          refine pj_X_of (fun r h => pj_R_to (G127, 59, [(3, .int y126), (0, .ref 171), (1, .int rk), (2, .int v2)], [.int (Int32.ofInt 1)], 0, 0) 59 2 (fun _ => rfl) h) ?_
          have q173 : (pj_fi G127 171 17).toInt = y131.toInt := by rw [show pj_fi G127 171 17 = y131 from hy131.symm]
          have q174 : (pj_fi G127 171 18).toInt = y132.toInt := by rw [show pj_fi G127 171 18 = y132 from hy132.symm]
          have q175 : (pj_fi G127 171 27).toInt = y133.toInt := by rw [show pj_fi G127 171 27 = y133 from hy133.symm]
          have q176 : (pj_fi G127 171 19).toInt = y134.toInt := by rw [show pj_fi G127 171 19 = y134 from hy134.symm]
          exact pj_X_rt rfl rfl ⟨_, rfl, iG127, kG127, ⟨by omega, by omega⟩, (fun H hH => by subst hH; exact (⟨by omega, (pj_qp_k x0_.1 (jG127.1 (171, 27) (by decide)) (fun j => jG127.2.2 183 (by decide) j)), (fun q => (pj_qm_k x0_ (jG127.1 (171, 27) (by decide)) (fun j => jG127.2.2 183 (by decide) j)))⟩)), rfl⟩
theorem ct_199x (G0 : pj_G) (hI : pj_Inv G0) {n : Nat} (rk : Int32) (rrk : (0 : Int) ≤ rk.toInt ∧ rk.toInt ≤ 3) (p0_ : pj_ihx n) (p1_ : (pj_fi G0 171 27).toInt ≤ (pj_fi G0 171 17).toInt) (p2_ : (pj_fi G0 171 17).toInt ≤ (pj_fi G0 171 18).toInt) (p3_ : 5 * ((pj_fi G0 171 18).toInt - (pj_fi G0 171 17).toInt) + 4 - rk.toInt < (n : Int) + 1) : pj_Y (20 + n + 1) 199 [.ref 171, .int rk] G0 (fun v' G' => ∃ y : Int32, v' = some (.int y) ∧ pj_Inv G' ∧ pj_kpt pj_MY G0 G' ∧ ((0 : Int) ≤ y.toInt ∧ y.toInt ≤ 1) ∧ (∀ H, G0 = H → (((pj_fi H 171 17).toInt ≤ (pj_fi G' 171 17).toInt ∧ (pj_fi G' 171 17).toInt ≤ (pj_fi G' 171 18).toInt ∧ (pj_fi G' 171 27).toInt + (pj_fi H 171 17).toInt ≤ (pj_fi H 171 27).toInt + (pj_fi G' 171 17).toInt ∧ (1 ≤ y.toInt → (pj_fi G' 171 19).toInt = (pj_fi H 171 19).toInt)) ∧ pj_qp H G' ∧ (1 ≤ y.toInt → pj_qm H G' 1))) ∧ ((y, G') = F_200x (RRx n) G0 rk)) := by
  have c0_ : ((Int16.ofInt 2000).toInt32).toInt = 2000 := by decide
  have c1_ : (Int32.ofInt 0).toInt = 0 := by decide
  have c2_ : (Int32.ofInt 1).toInt = 1 := by decide
  have c3_ : (Int32.ofInt 3).toInt = 3 := by decide
  have c4_ : (Int32.ofInt 5).toInt = 5 := by decide
  refine pj_Y_X (M := pj_m199) rfl rfl (Nat.le_of_ble_eq_true rfl) ?_
  have hK : pj_kpt pj_MY G0 G0 := pj_kpt_r _ _
  show pj_X _ _ G0 0 [(0, .ref 171), (1, .int rk)] [] _
  rw [F_200x_e]
  obtain ⟨y177, hy177⟩ : ∃ z : Int32, z = pj_fi G0 171 17 := ⟨_, rfl⟩
  have ey177 : (pj_fi G0 171 17).toInt = y177.toInt := by rw [hy177]
  have ry177 : (0 : Int) ≤ y177.toInt ∧ y177.toInt ≤ 80 := by rw [hy177]; exact hI.2.1 171 17 (0, 80) rfl
  obtain ⟨y178, hy178⟩ : ∃ z : Int32, z = pj_fi G0 171 18 := ⟨_, rfl⟩
  have ey178 : (pj_fi G0 171 18).toInt = y178.toInt := by rw [hy178]
  have ry178 : (0 : Int) ≤ y178.toInt ∧ y178.toInt ≤ 80 := by rw [hy178]; exact hI.2.1 171 18 (0, 80) rfl
  obtain ⟨y179, hy179⟩ : ∃ z : Int32, z = pj_fi G0 171 27 := ⟨_, rfl⟩
  have ey179 : (pj_fi G0 171 27).toInt = y179.toInt := by rw [hy179]
  have ry179 : (0 : Int) ≤ y179.toInt ∧ y179.toInt ≤ 80 := by rw [hy179]; exact hI.2.1 171 27 (0, 80) rfl
  obtain ⟨y180, hy180⟩ : ∃ z : Int32, z = pj_fi G0 171 19 := ⟨_, rfl⟩
  have ey180 : (pj_fi G0 171 19).toInt = y180.toInt := by rw [hy180]
  have ry180 : (0 : Int) ≤ y180.toInt ∧ y180.toInt ≤ 4 := by rw [hy180]; exact hI.2.1 171 19 (0, 4) rfl
  refine pj_X_of (fun r h => pj_R_to (G0, 2, [(0, .ref 171), (1, .int rk)], [.int (Int32.ofInt 3), .int rk], 0, 0) 2 3 (fun _ => rfl) h) ?_
  cases b181 : pj_c1 .ne rk (Int32.ofInt 3) with
  | true =>
    rw [pj_cT]
    have ub181 := pj_u_neT b181
    refine pj_X_of (fun r h => pj_R_icT 10 rfl rfl b181 h) ?_
    refine pj_X_of (fun r h => pj_R_to (G0, 14, [(0, .ref 171), (1, .int rk)], [.int (rk + (Int32.ofInt 1)), .ref 171], 0, 0) 14 5 (fun _ => rfl) h) ?_
    obtain ⟨z182, hz182⟩ : ∃ z : Int32, z = rk + (Int32.ofInt 1) := ⟨_, rfl⟩
    refine pj_X_eqi hz182.symm ?_
    rw [← hz182, pj_nm_e]
    have fz182_0 : z182.toInt = rk.toInt + (Int32.ofInt 1).toInt := by rw [hz182]; exact pj_addI (by have := pj_i32 rk; have := pj_i32 (Int32.ofInt 1); omega) (by have := pj_i32 rk; have := pj_i32 (Int32.ofInt 1); omega)
    have q183 : (pj_fi G0 171 17).toInt = y177.toInt := by rw [show pj_fi G0 171 17 = y177 from hy177.symm]
    have q184 : (pj_fi G0 171 18).toInt = y178.toInt := by rw [show pj_fi G0 171 18 = y178 from hy178.symm]
    have q185 : (pj_fi G0 171 27).toInt = y179.toInt := by rw [show pj_fi G0 171 27 = y179 from hy179.symm]
    have q186 : (pj_fi G0 171 19).toInt = y180.toInt := by rw [show pj_fi G0 171 19 = y180 from hy180.symm]
    refine pj_X_ca (vs := [.ref 171, .int z182]) rfl (fun _ => rfl) ⟨Nat.le_of_ble_eq_true rfl, Nat.le_of_ble_eq_true rfl, pj_T_rcv hI rfl⟩ ⟨rfl, rfl⟩ (pj_Y_up (by omega) (p0_.2 G0 z182 hI ⟨by omega, by omega⟩ (by omega) (by omega) (by omega))) ?_
    rintro _ G188 ⟨y187, rfl, iG188, jG188, ry187, ey187, fy187⟩
    replace ey187 := ey187 _ rfl
    rw [← fy187, pj_bd_e]
    have kG188 : pj_kpt pj_MY G0 G188 := pj_kpt_t hK (pj_kpt_s jG188 rfl)
    have q189 : (pj_fi G188 171 18).toInt = (pj_fi G0 171 18).toInt := by rw [jG188.1 (171, 18) (by decide)]
    obtain ⟨y190, hy190⟩ : ∃ z : Int32, z = pj_fi G188 171 17 := ⟨_, rfl⟩
    have ey190 : (pj_fi G188 171 17).toInt = y190.toInt := by rw [hy190]
    have ry190 : (0 : Int) ≤ y190.toInt ∧ y190.toInt ≤ 80 := by rw [hy190]; exact iG188.2.1 171 17 (0, 80) rfl
    obtain ⟨y191, hy191⟩ : ∃ z : Int32, z = pj_fi G188 171 18 := ⟨_, rfl⟩
    have ey191 : (pj_fi G188 171 18).toInt = y191.toInt := by rw [hy191]
    have ry191 : (0 : Int) ≤ y191.toInt ∧ y191.toInt ≤ 80 := by rw [hy191]; exact iG188.2.1 171 18 (0, 80) rfl
    obtain ⟨y192, hy192⟩ : ∃ z : Int32, z = pj_fi G188 171 27 := ⟨_, rfl⟩
    have ey192 : (pj_fi G188 171 27).toInt = y192.toInt := by rw [hy192]
    have ry192 : (0 : Int) ≤ y192.toInt ∧ y192.toInt ≤ 80 := by rw [hy192]; exact iG188.2.1 171 27 (0, 80) rfl
    obtain ⟨y193, hy193⟩ : ∃ z : Int32, z = pj_fi G188 171 19 := ⟨_, rfl⟩
    have ey193 : (pj_fi G188 171 19).toInt = y193.toInt := by rw [hy193]
    have ry193 : (0 : Int) ≤ y193.toInt ∧ y193.toInt ≤ 4 := by rw [hy193]; exact iG188.2.1 171 19 (0, 4) rfl
    show pj_X _ _ G188 17 [(0, .ref 171), (1, .int rk)] [.int y187] _
    cases b194 : pj_c1 .ne y187 0 with
    | true =>
      rw [pj_cT]
      have ub194 := pj_u0_neT b194
      refine pj_X_of (fun r h => pj_R_ifT 22 rfl rfl b194 h) ?_
      refine pj_X_of (fun r h => pj_R_to (G188, 24, [(2, .int (Int32.ofInt 1)), (0, .ref 171), (1, .int rk)], [], 0, 0) 24 3 (fun _ => rfl) h) ?_
      have q195 : (pj_fi G188 171 17).toInt = y190.toInt := by rw [show pj_fi G188 171 17 = y190 from hy190.symm]
      have q196 : (pj_fi G188 171 18).toInt = y191.toInt := by rw [show pj_fi G188 171 18 = y191 from hy191.symm]
      have q197 : (pj_fi G188 171 27).toInt = y192.toInt := by rw [show pj_fi G188 171 27 = y192 from hy192.symm]
      have q198 : (pj_fi G188 171 19).toInt = y193.toInt := by rw [show pj_fi G188 171 19 = y193 from hy193.symm]
      exact pj_X_sub [(0, .ref 171), (1, .int rk), (2, .int (Int32.ofInt 1))] (show List.Nodup [0, 1, 2] by decide) ⟨rfl, rfl, rfl, trivial⟩ ((lp_ct_199x G0 hI rk rrk p0_ p1_ p2_ p3_ 201) G188 iG188 kG188 (Int32.ofInt 1) ⟨by omega, by omega⟩ (show pj_qm G0 G188 1 from pj_qm_t (by omega) (pj_qm_r G0) (ey187.2.2 (by omega))) (by omega) (by omega) (by omega))
    | false =>
      rw [pj_cF]
      have ub194 := pj_u0_neF b194
      refine pj_X_of (fun r h => pj_R_ifF rfl b194 h) ?_
      refine pj_X_of (fun r h => pj_R_to (G188, 21, [(0, .ref 171), (1, .int rk)], [.int (Int32.ofInt 0)], 0, 0) 21 2 (fun _ => rfl) h) ?_
      have q199 : (pj_fi G188 171 17).toInt = y190.toInt := by rw [show pj_fi G188 171 17 = y190 from hy190.symm]
      have q200 : (pj_fi G188 171 18).toInt = y191.toInt := by rw [show pj_fi G188 171 18 = y191 from hy191.symm]
      have q201 : (pj_fi G188 171 27).toInt = y192.toInt := by rw [show pj_fi G188 171 27 = y192 from hy192.symm]
      have q202 : (pj_fi G188 171 19).toInt = y193.toInt := by rw [show pj_fi G188 171 19 = y193 from hy193.symm]
      exact pj_X_rt rfl rfl ⟨_, rfl, iG188, kG188, ⟨by omega, by omega⟩, (fun H hH => by subst hH; exact (⟨by omega, (pj_qp_t (pj_qp_r G0) ey187.2.1), (fun q => absurd q (by omega))⟩)), rfl⟩
  | false =>
    rw [pj_cF]
    have ub181 := pj_u_neF b181
    refine pj_X_of (fun r h => pj_R_icF rfl b181 h) ?_
    refine pj_X_of (fun r h => pj_R_to (G0, 6, [(0, .ref 171), (1, .int rk)], [.ref 171], 0, 0) 6 2 (fun _ => rfl) h) ?_
    have q203 : (pj_fi G0 171 17).toInt = y177.toInt := by rw [show pj_fi G0 171 17 = y177 from hy177.symm]
    have q204 : (pj_fi G0 171 18).toInt = y178.toInt := by rw [show pj_fi G0 171 18 = y178 from hy178.symm]
    have q205 : (pj_fi G0 171 27).toInt = y179.toInt := by rw [show pj_fi G0 171 27 = y179 from hy179.symm]
    have q206 : (pj_fi G0 171 19).toInt = y180.toInt := by rw [show pj_fi G0 171 19 = y180 from hy180.symm]
    refine pj_X_ca (vs := [.ref 171]) rfl (fun _ => rfl) ⟨Nat.le_of_ble_eq_true rfl, Nat.le_of_ble_eq_true rfl, pj_T_rcv hI rfl⟩ ⟨rfl, rfl⟩ (pj_Y_up (by omega) (p0_.1 G0 hI (by omega) (by omega) (by omega))) ?_
    rintro _ G208 ⟨y207, rfl, iG208, jG208, ry207, ey207, fy207⟩
    replace ey207 := ey207 _ rfl
    rw [← fy207, pj_bd_e]
    have kG208 : pj_kpt pj_MY G0 G208 := pj_kpt_t hK (pj_kpt_s jG208 rfl)
    have q209 : (pj_fi G208 171 18).toInt = (pj_fi G0 171 18).toInt := by rw [jG208.1 (171, 18) (by decide)]
    obtain ⟨y210, hy210⟩ : ∃ z : Int32, z = pj_fi G208 171 17 := ⟨_, rfl⟩
    have ey210 : (pj_fi G208 171 17).toInt = y210.toInt := by rw [hy210]
    have ry210 : (0 : Int) ≤ y210.toInt ∧ y210.toInt ≤ 80 := by rw [hy210]; exact iG208.2.1 171 17 (0, 80) rfl
    obtain ⟨y211, hy211⟩ : ∃ z : Int32, z = pj_fi G208 171 18 := ⟨_, rfl⟩
    have ey211 : (pj_fi G208 171 18).toInt = y211.toInt := by rw [hy211]
    have ry211 : (0 : Int) ≤ y211.toInt ∧ y211.toInt ≤ 80 := by rw [hy211]; exact iG208.2.1 171 18 (0, 80) rfl
    obtain ⟨y212, hy212⟩ : ∃ z : Int32, z = pj_fi G208 171 27 := ⟨_, rfl⟩
    have ey212 : (pj_fi G208 171 27).toInt = y212.toInt := by rw [hy212]
    have ry212 : (0 : Int) ≤ y212.toInt ∧ y212.toInt ≤ 80 := by rw [hy212]; exact iG208.2.1 171 27 (0, 80) rfl
    obtain ⟨y213, hy213⟩ : ∃ z : Int32, z = pj_fi G208 171 19 := ⟨_, rfl⟩
    have ey213 : (pj_fi G208 171 19).toInt = y213.toInt := by rw [hy213]
    have ry213 : (0 : Int) ≤ y213.toInt ∧ y213.toInt ≤ 4 := by rw [hy213]; exact iG208.2.1 171 19 (0, 4) rfl
    show pj_X _ _ G208 9 [(0, .ref 171), (1, .int rk)] [.int y207] _
    have q214 : (pj_fi G208 171 17).toInt = y210.toInt := by rw [show pj_fi G208 171 17 = y210 from hy210.symm]
    have q215 : (pj_fi G208 171 18).toInt = y211.toInt := by rw [show pj_fi G208 171 18 = y211 from hy211.symm]
    have q216 : (pj_fi G208 171 27).toInt = y212.toInt := by rw [show pj_fi G208 171 27 = y212 from hy212.symm]
    have q217 : (pj_fi G208 171 19).toInt = y213.toInt := by rw [show pj_fi G208 171 19 = y213 from hy213.symm]
    exact pj_X_rt (v := some (.int y207)) rfl (pj_rtb ⟨by omega, by omega⟩) ⟨_, rfl, iG208, kG208, ⟨by omega, by omega⟩, (fun H hH => by subst hH; exact (⟨by omega, (pj_qp_t (pj_qp_r G0) ey207.2.1), (fun q => (show pj_qm G0 G208 1 from pj_qm_t (by omega) (pj_qm_r G0) (ey207.2.2 (by omega))))⟩)), rfl⟩
theorem fr_200x (G0 : pj_G) (hI : pj_Inv G0) {n : Nat} (rk : Int32) (rrk : (0 : Int) ≤ rk.toInt ∧ rk.toInt ≤ 3) (p0_ : pj_ihx n) (p1_ : (pj_fi G0 171 27).toInt ≤ (pj_fi G0 171 17).toInt) (p2_ : (pj_fi G0 171 17).toInt ≤ (pj_fi G0 171 18).toInt) (p3_ : 5 * ((pj_fi G0 171 18).toInt - (pj_fi G0 171 17).toInt) + 4 - rk.toInt < (n : Int) + 1) : pj_Inv (F_200x (RRx n) G0 rk).2 ∧ pj_kpt pj_MY G0 (F_200x (RRx n) G0 rk).2 ∧ ((0 : Int) ≤ (F_200x (RRx n) G0 rk).1.toInt ∧ (F_200x (RRx n) G0 rk).1.toInt ≤ 1) ∧ (((pj_fi G0 171 17).toInt ≤ (pj_fi (F_200x (RRx n) G0 rk).2 171 17).toInt ∧ (pj_fi (F_200x (RRx n) G0 rk).2 171 17).toInt ≤ (pj_fi (F_200x (RRx n) G0 rk).2 171 18).toInt ∧ (pj_fi (F_200x (RRx n) G0 rk).2 171 27).toInt + (pj_fi G0 171 17).toInt ≤ (pj_fi G0 171 27).toInt + (pj_fi (F_200x (RRx n) G0 rk).2 171 17).toInt ∧ (1 ≤ (F_200x (RRx n) G0 rk).1.toInt → (pj_fi (F_200x (RRx n) G0 rk).2 171 19).toInt = (pj_fi G0 171 19).toInt)) ∧ pj_qp G0 (F_200x (RRx n) G0 rk).2 ∧ (1 ≤ (F_200x (RRx n) G0 rk).1.toInt → pj_qm G0 (F_200x (RRx n) G0 rk).2 1)) := by
  obtain ⟨v, G', -, y, -, i, j, r, x, e⟩ := ct_199x G0 hI rk rrk p0_ p1_ p2_ p3_
  rw [← e]
  exact ⟨i, j, r, x _ rfl⟩
theorem pj_ihx_all : ∀ n : Nat, pj_ihx n := by
  intro n
  induction n with
  | zero => exact ⟨fun G hI h1 h2 h3 => absurd h3 (by omega), fun G rk hI hr h1 h2 h3 => absurd h3 (by omega)⟩
  | succ n ih => exact ⟨fun G hI h1 h2 h3 => ct_198x G hI ih h1 h2 (by omega), fun G rk hI hr h1 h2 h3 => ct_199x G hI rk hr ih h1 h2 (by omega)⟩
