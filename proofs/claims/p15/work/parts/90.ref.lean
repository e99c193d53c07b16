theorem pj_ai_wa_eq {G : pj_G} (hS : pj_coks pj_tb G.1 = true) {a n j : Nat} {l : List (List Nat)} {x : Int32} (ht : pj_tat a = some (1, n, l)) : pj_ai (pj_wa G a j x) a j = x := by
  obtain ⟨f, hg, -⟩ := pj_t1_s hS ht
  rw [pj_wa_eq hg]
  unfold pj_ai
  rw [pj_gp hg]
  show upd f j x j = x
  unfold upd
  exact if_pos rfl
theorem pj_X_eqi {d : Nat} {M : pj_M} {G : pj_G} {pc : Nat} {L : pj_L} {S : List Value} {P : Option Value → pj_G → Prop} {x y : Int32} (e : x = y) (h : pj_X d M G pc L (.int y :: S) P) : pj_X d M G pc L (.int x :: S) P := by
  rw [e]
  exact h
noncomputable def F_171x (G0 : pj_G) (a : Int64) (b : Int64) (c : Int64) : Int32 := pj_nm (lg_cmp a b) (fun z1 => cond (pj_c1 .lt z1 0) (Int32.ofInt 0) (pj_nm (lg_cmp a c) (fun z3 => cond (pj_c1 .gt z3 0) (Int32.ofInt 0) (Int32.ofInt 1))))
theorem F_171x_e (G0 : pj_G) (a : Int64) (b : Int64) (c : Int64) : F_171x G0 a b c = pj_nm (lg_cmp a b) (fun z1 => cond (pj_c1 .lt z1 0) (Int32.ofInt 0) (pj_nm (lg_cmp a c) (fun z3 => cond (pj_c1 .gt z3 0) (Int32.ofInt 0) (Int32.ofInt 1)))) := rfl
theorem ct_170x (G0 : pj_G) (hI : pj_Inv G0) (a : Int64) (b : Int64) (c : Int64) : pj_Y 1 170 [.long a, .long b, .long c] G0 (fun v' G' => ∃ y : Int32, v' = some (.int y) ∧ G0 = G' ∧ ((0 : Int) ≤ y.toInt ∧ y.toInt ≤ 1) ∧ ((1 ≤ y.toInt → b.toInt ≤ a.toInt ∧ a.toInt ≤ c.toInt) ∧ (y.toInt = 0 → a.toInt < b.toInt ∨ c.toInt < a.toInt)) ∧ (y = F_171x G0 a b c)) := by
  have c0_ : (Int32.ofInt 0).toInt = 0 := by decide
  have c1_ : (Int32.ofInt 1).toInt = 1 := by decide
  refine pj_Y_X (M := pj_m170) rfl rfl (Nat.le_of_ble_eq_true rfl) ?_
  have hK : pj_kpt ([], [], []) G0 G0 := pj_kpt_r _ _
  show pj_X _ _ G0 0 [(0, .long a), (2, .long b), (4, .long c)] [] _
  rw [F_171x_e]
  refine pj_X_of (fun r h => pj_R_to (G0, 3, [(0, .long a), (2, .long b), (4, .long c)], [.int (lg_cmp a b)], 0, 0) 3 4 (fun _ => rfl) h) ?_
  obtain ⟨z1, hz1⟩ : ∃ z : Int32, z = lg_cmp a b := ⟨_, rfl⟩
  refine pj_X_eqi hz1.symm ?_
  rw [← hz1, pj_nm_e]
  have fz1_0 : (-1 ≤ z1.toInt ∧ z1.toInt ≤ 1) ∧ (z1.toInt < 0 ↔ a.toInt < b.toInt) ∧ (0 < z1.toInt ↔ b.toInt < a.toInt) := by rw [hz1]; exact pj_lcI
  cases b2 : pj_c1 .lt z1 0 with
  | true =>
    rw [pj_cT]
    have ub2 := pj_u0_ltT b2
    refine pj_X_of (fun r h => pj_R_ifT 17 rfl rfl b2 h) ?_
    refine pj_X_of (fun r h => pj_R_to (G0, 18, [(0, .long a), (2, .long b), (4, .long c)], [.int (Int32.ofInt 0)], 0, 0) 18 2 (fun _ => rfl) h) ?_
    exact pj_X_rt rfl rfl ⟨_, rfl, rfl, ⟨by omega, by omega⟩, ⟨by omega, by omega⟩, rfl⟩
  | false =>
    rw [pj_cF]
    have ub2 := pj_u0_ltF b2
    refine pj_X_of (fun r h => pj_R_ifF rfl b2 h) ?_
    refine pj_X_of (fun r h => pj_R_to (G0, 10, [(0, .long a), (2, .long b), (4, .long c)], [.int (lg_cmp a c)], 0, 0) 10 4 (fun _ => rfl) h) ?_
    obtain ⟨z3, hz3⟩ : ∃ z : Int32, z = lg_cmp a c := ⟨_, rfl⟩
    refine pj_X_eqi hz3.symm ?_
    rw [← hz3, pj_nm_e]
    have fz3_0 : (-1 ≤ z3.toInt ∧ z3.toInt ≤ 1) ∧ (z3.toInt < 0 ↔ a.toInt < c.toInt) ∧ (0 < z3.toInt ↔ c.toInt < a.toInt) := by rw [hz3]; exact pj_lcI
    cases b4 : pj_c1 .gt z3 0 with
    | true =>
      rw [pj_cT]
      have ub4 := pj_u0_gtT b4
      refine pj_X_of (fun r h => pj_R_ifT 17 rfl rfl b4 h) ?_
      refine pj_X_of (fun r h => pj_R_to (G0, 18, [(0, .long a), (2, .long b), (4, .long c)], [.int (Int32.ofInt 0)], 0, 0) 18 2 (fun _ => rfl) h) ?_
      exact pj_X_rt rfl rfl ⟨_, rfl, rfl, ⟨by omega, by omega⟩, ⟨by omega, by omega⟩, rfl⟩
    | false =>
      rw [pj_cF]
      have ub4 := pj_u0_gtF b4
      refine pj_X_of (fun r h => pj_R_ifF rfl b4 h) ?_
      refine pj_X_of (fun r h => pj_R_to (G0, 18, [(0, .long a), (2, .long b), (4, .long c)], [.int (Int32.ofInt 1)], 0, 0) 18 3 (fun _ => rfl) h) ?_
      exact pj_X_rt rfl rfl ⟨_, rfl, rfl, ⟨by omega, by omega⟩, ⟨by omega, by omega⟩, rfl⟩
theorem fr_171x (G0 : pj_G) (hI : pj_Inv G0) (a : Int64) (b : Int64) (c : Int64) : ((0 : Int) ≤ (F_171x G0 a b c).toInt ∧ (F_171x G0 a b c).toInt ≤ 1) ∧ ((1 ≤ (F_171x G0 a b c).toInt → b.toInt ≤ a.toInt ∧ a.toInt ≤ c.toInt) ∧ ((F_171x G0 a b c).toInt = 0 → a.toInt < b.toInt ∨ c.toInt < a.toInt)) := by
  obtain ⟨v, G', -, y, -, rfl, r, x, e⟩ := ct_170x G0 hI a b c
  rw [← e]
  exact ⟨r, x⟩
noncomputable def F_172x (G0 : pj_G) (s : Int32) (k : Int32) : Int32 := pj_nm (s >>> (k &&& 31)) (fun z1 => pj_nm (z1 &&& (Int32.ofInt 1)) (fun z2 => cond (pj_c1 .ne z2 (Int32.ofInt 1)) (Int32.ofInt 0) (Int32.ofInt 1)))
theorem F_172x_e (G0 : pj_G) (s : Int32) (k : Int32) : F_172x G0 s k = pj_nm (s >>> (k &&& 31)) (fun z1 => pj_nm (z1 &&& (Int32.ofInt 1)) (fun z2 => cond (pj_c1 .ne z2 (Int32.ofInt 1)) (Int32.ofInt 0) (Int32.ofInt 1))) := rfl
theorem ct_171x (G0 : pj_G) (hI : pj_Inv G0) (s : Int32) (k : Int32) : pj_Y 1 171 [.int s, .int k] G0 (fun v' G' => ∃ y : Int32, v' = some (.int y) ∧ G0 = G' ∧ ((0 : Int) ≤ y.toInt ∧ y.toInt ≤ 1) ∧ (y = F_172x G0 s k)) := by
  have c0_ : (Int32.ofInt 0).toInt = 0 := by decide
  have c1_ : (Int32.ofInt 1).toInt = 1 := by decide
  refine pj_Y_X (M := pj_m171) rfl rfl (Nat.le_of_ble_eq_true rfl) ?_
  have hK : pj_kpt ([], [], []) G0 G0 := pj_kpt_r _ _
  show pj_X _ _ G0 0 [(0, .int s), (1, .int k)] [] _
  rw [F_172x_e]
  refine pj_X_of (fun r h => pj_R_to (G0, 3, [(0, .int s), (1, .int k)], [.int (s >>> (k &&& 31))], 0, 0) 3 4 (fun _ => rfl) h) ?_
  obtain ⟨z1, hz1⟩ : ∃ z : Int32, z = s >>> (k &&& 31) := ⟨_, rfl⟩
  refine pj_X_eqi hz1.symm ?_
  rw [← hz1, pj_nm_e]
  refine pj_X_of (fun r h => pj_R_to (G0, 5, [(0, .int s), (1, .int k)], [.int (z1 &&& (Int32.ofInt 1))], 0, 0) 5 3 (fun _ => rfl) h) ?_
  obtain ⟨z2, hz2⟩ : ∃ z : Int32, z = z1 &&& (Int32.ofInt 1) := ⟨_, rfl⟩
  refine pj_X_eqi hz2.symm ?_
  rw [← hz2, pj_nm_e]
  have fz2_0 : 0 ≤ z2.toInt ∧ z2.toInt ≤ (Int32.ofInt 1).toInt := by rw [hz2]; exact pj_andI (by omega)
  refine pj_X_of (fun r h => pj_R_to (G0, 6, [(0, .int s), (1, .int k)], [.int (Int32.ofInt 1), .int z2], 0, 0) 6 2 (fun _ => rfl) h) ?_
  cases b3 : pj_c1 .ne z2 (Int32.ofInt 1) with
  | true =>
    rw [pj_cT]
    have ub3 := pj_u_neT b3
    refine pj_X_of (fun r h => pj_R_icT 13 rfl rfl b3 h) ?_
    refine pj_X_of (fun r h => pj_R_to (G0, 14, [(0, .int s), (1, .int k)], [.int (Int32.ofInt 0)], 0, 0) 14 2 (fun _ => rfl) h) ?_
    exact pj_X_rt rfl rfl ⟨_, rfl, rfl, ⟨by omega, by omega⟩, rfl⟩
  | false =>
    rw [pj_cF]
    have ub3 := pj_u_neF b3
    refine pj_X_of (fun r h => pj_R_icF rfl b3 h) ?_
    refine pj_X_of (fun r h => pj_R_to (G0, 14, [(0, .int s), (1, .int k)], [.int (Int32.ofInt 1)], 0, 0) 14 3 (fun _ => rfl) h) ?_
    exact pj_X_rt rfl rfl ⟨_, rfl, rfl, ⟨by omega, by omega⟩, rfl⟩
theorem fr_172x (G0 : pj_G) (hI : pj_Inv G0) (s : Int32) (k : Int32) : ((0 : Int) ≤ (F_172x G0 s k).toInt ∧ (F_172x G0 s k).toInt ≤ 1) := by
  obtain ⟨v, G', -, y, -, rfl, r, e⟩ := ct_171x G0 hI s k
  rw [← e]
  exact r
noncomputable def F_173x (G0 : pj_G) (is : Int32) : Int32 := cond (pj_c1 .eq is 0) (Int32.ofInt 0) (Int32.ofInt 1)
theorem F_173x_e (G0 : pj_G) (is : Int32) : F_173x G0 is = cond (pj_c1 .eq is 0) (Int32.ofInt 0) (Int32.ofInt 1) := rfl
theorem ct_172x (G0 : pj_G) (hI : pj_Inv G0) (is : Int32) (ris : (0 : Int) ≤ is.toInt ∧ is.toInt ≤ 1) : pj_Y 1 172 [.int is] G0 (fun v' G' => ∃ y : Int32, v' = some (.int y) ∧ G0 = G' ∧ ((0 : Int) ≤ y.toInt ∧ y.toInt ≤ 1) ∧ (y.toInt = is.toInt) ∧ (y = F_173x G0 is)) := by
  have c0_ : (Int32.ofInt 0).toInt = 0 := by decide
  have c1_ : (Int32.ofInt 1).toInt = 1 := by decide
  refine pj_Y_X (M := pj_m172) rfl rfl (Nat.le_of_ble_eq_true rfl) ?_
  have hK : pj_kpt ([], [], []) G0 G0 := pj_kpt_r _ _
  show pj_X _ _ G0 0 [(0, .int is)] [] _
  rw [F_173x_e]
  refine pj_X_of (fun r h => pj_R_to (G0, 1, [(0, .int is)], [.int is], 0, 0) 1 2 (fun _ => rfl) h) ?_
  cases b1 : pj_c1 .eq is 0 with
  | true =>
    rw [pj_cT]
    have ub1 := pj_u0_eqT b1
    refine pj_X_of (fun r h => pj_R_ifT 8 rfl rfl b1 h) ?_
    refine pj_X_of (fun r h => pj_R_to (G0, 9, [(0, .int is)], [.int (Int32.ofInt 0)], 0, 0) 9 2 (fun _ => rfl) h) ?_
    exact pj_X_rt rfl rfl ⟨_, rfl, rfl, ⟨by omega, by omega⟩, by omega, rfl⟩
  | false =>
    rw [pj_cF]
    have ub1 := pj_u0_eqF b1
    refine pj_X_of (fun r h => pj_R_ifF rfl b1 h) ?_
    refine pj_X_of (fun r h => pj_R_to (G0, 9, [(0, .int is)], [.int (Int32.ofInt 1)], 0, 0) 9 3 (fun _ => rfl) h) ?_
    exact pj_X_rt rfl rfl ⟨_, rfl, rfl, ⟨by omega, by omega⟩, by omega, rfl⟩
theorem fr_173x (G0 : pj_G) (hI : pj_Inv G0) (is : Int32) (ris : (0 : Int) ≤ is.toInt ∧ is.toInt ≤ 1) : ((0 : Int) ≤ (F_173x G0 is).toInt ∧ (F_173x G0 is).toInt ≤ 1) ∧ ((F_173x G0 is).toInt = is.toInt) := by
  obtain ⟨v, G', -, y, -, rfl, r, x, e⟩ := ct_172x G0 hI is ris
  rw [← e]
  exact ⟨r, x⟩
def kc_174x : pj_KT := ([(171, 1)], [171, 172], [])
noncomputable def F_175x (G0 : pj_G) (w : Int64) : pj_G := pj_nm (pj_fi G0 171 1) (fun y1 => pj_nm (pj_wl G0 172 y1.toInt.toNat w) (fun G2 => pj_nm (y1 + (Int32.ofInt 1)) (fun z3 => pj_nm (pj_wv G2 171 1 (.int z3)) (fun G4 => G4))))
theorem F_175x_e (G0 : pj_G) (w : Int64) : F_175x G0 w = pj_nm (pj_fi G0 171 1) (fun y1 => pj_nm (pj_wl G0 172 y1.toInt.toNat w) (fun G2 => pj_nm (y1 + (Int32.ofInt 1)) (fun z3 => pj_nm (pj_wv G2 171 1 (.int z3)) (fun G4 => G4)))) := rfl
theorem ct_174x (G0 : pj_G) (hI : pj_Inv G0) (w : Int64) (p0_ : (pj_fi G0 171 1).toInt ≤ 23) : pj_Y 1 174 [.ref 171, .long w] G0 (fun v' G' => v' = none ∧ pj_Inv G' ∧ pj_kpt kc_174x G0 G' ∧ (∀ H, G0 = H → ((pj_fi G' 171 1).toInt = (pj_fi H 171 1).toInt + 1)) ∧ (G' = F_175x G0 w)) := by
  have c0_ : (Int32.ofInt 1).toInt = 1 := by decide
  refine pj_Y_X (M := pj_m174) rfl rfl (Nat.le_of_ble_eq_true rfl) ?_
  have hK : pj_kpt kc_174x G0 G0 := pj_kpt_r _ _
  show pj_X _ _ G0 0 [(0, .ref 171), (1, .long w)] [] _
  rw [F_175x_e]
  obtain ⟨y1, hy1⟩ : ∃ z : Int32, z = pj_fi G0 171 1 := ⟨_, rfl⟩
  have ey1 : (pj_fi G0 171 1).toInt = y1.toInt := by rw [hy1]
  have ry1 : (0 : Int) ≤ y1.toInt ∧ y1.toInt ≤ 24 := by rw [hy1]; exact hI.2.1 171 1 (0, 24) rfl
  refine pj_X_of (fun r h => pj_R_to (G0, 1, [(0, .ref 171), (1, .long w)], [.ref 171], 0, 0) 1 2 (fun _ => rfl) h) ?_
  refine pj_X_of (fun r h => pj_T_gr hI rfl rfl rfl h) ?_
  refine pj_X_of (fun r h => pj_R_to (G0, 5, [(0, .ref 171), (1, .long w)], [.ref 171, .ref 172], 0, 0) 5 2 (fun _ => rfl) h) ?_
  refine pj_X_of (fun r h => pj_T_gi hI rfl rfl h) ?_
  show pj_X _ _ G0 8 [(0, .ref 171), (1, .long w)] [.int (pj_fi G0 171 1), .ref 172] _
  rw [← hy1, pj_nm_e]
  refine pj_X_of (fun r h => pj_R_to (G0, 9, [(0, .ref 171), (1, .long w)], [.long w, .int y1, .ref 172], 0, 0) 9 2 (fun _ => rfl) h) ?_
  refine pj_X_of (fun r h => pj_T_ls hI rfl rfl (by omega) (by omega) h) ?_
  show pj_X _ _ (pj_wl G0 172 y1.toInt.toNat w) 10 [(0, .ref 171), (1, .long w)] [] _
  obtain ⟨G2, hG2⟩ : ∃ H, H = pj_wl G0 172 y1.toInt.toNat w := ⟨_, rfl⟩
  have iG2 : pj_Inv G2 := by rw [hG2]; exact pj_Inv_wl hI rfl
  have kG2 : pj_kpt kc_174x G0 G2 := by rw [hG2]; exact pj_kpt_l hK rfl
  rw [← hG2]
  rw [pj_nm_e]
  refine pj_X_of (fun r h => pj_R_to (G2, 12, [(0, .ref 171), (1, .long w)], [.ref 171, .ref 171], 0, 0) 12 3 (fun _ => rfl) h) ?_
  refine pj_X_of (fun r h => pj_T_gi iG2 rfl rfl h) ?_
  show pj_X _ _ G2 15 [(0, .ref 171), (1, .long w)] [.int (pj_fi G2 171 1), .ref 171] _
  refine pj_X_eqi (show pj_fi G2 171 1 = y1 from by rw [hG2, pj_fi_wl]; exact hy1.symm) ?_
  refine pj_X_of (fun r h => pj_R_to (G2, 17, [(0, .ref 171), (1, .long w)], [.int (y1 + (Int32.ofInt 1)), .ref 171], 0, 0) 17 3 (fun _ => rfl) h) ?_
  obtain ⟨z3, hz3⟩ : ∃ z : Int32, z = y1 + (Int32.ofInt 1) := ⟨_, rfl⟩
  refine pj_X_eqi hz3.symm ?_
  rw [← hz3, pj_nm_e]
  have fz3_0 : z3.toInt = y1.toInt + (Int32.ofInt 1).toInt := by rw [hz3]; exact pj_addI (by have := pj_i32 y1; have := pj_i32 (Int32.ofInt 1); omega) (by have := pj_i32 y1; have := pj_i32 (Int32.ofInt 1); omega)
  refine pj_X_of (fun r h => pj_T_pf iG2 rfl rfl rfl h) ?_
  show pj_X _ _ (pj_wv G2 171 1 (.int z3)) 20 [(0, .ref 171), (1, .long w)] [] _
  obtain ⟨G4, hG4⟩ : ∃ H, H = pj_wv G2 171 1 (.int z3) := ⟨_, rfl⟩
  have iG4 : pj_Inv G4 := by rw [hG4]; exact pj_Inv_wi iG2 (ci := 12) rfl (fun q hq => by cases hq; exact ⟨by show (0 : Int) ≤ _; omega, by show _ ≤ (24 : Int); omega⟩)
  have kG4 : pj_kpt kc_174x G0 G4 := by rw [hG4]; exact pj_kpt_v kG2 rfl
  rw [← hG4]
  rw [pj_nm_e]
  have q5 : (pj_fi G4 171 1).toInt = z3.toInt := by rw [show pj_fi G4 171 1 = z3 from by rw [hG4]; exact pj_fi_wi iG2.1 (ci := 12) rfl _]
  exact pj_X_rt rfl rfl ⟨rfl, iG4, kG4, (fun H hH => by subst hH; exact (by omega)), rfl⟩
theorem fr_175x (G0 : pj_G) (hI : pj_Inv G0) (w : Int64) (p0_ : (pj_fi G0 171 1).toInt ≤ 23) : pj_Inv (F_175x G0 w) ∧ pj_kpt kc_174x G0 (F_175x G0 w) ∧ ((pj_fi (F_175x G0 w) 171 1).toInt = (pj_fi G0 171 1).toInt + 1) := by
  obtain ⟨v, G', -, -, i, j, x, e⟩ := ct_174x G0 hI w p0_
  rw [← e]
  exact ⟨i, j, x _ rfl⟩
noncomputable def F_176x (G0 : pj_G) (b : Int32) : Int32 := pj_nm (pj_fi G0 171 3) (fun y1 => pj_nm (y1 - (Int32.ofInt 1)) (fun z2 => pj_nm (F_171x G0 b.toInt64 (Int64.ofNat 0) z2.toInt64) (fun y7 => y7)))
theorem F_176x_e (G0 : pj_G) (b : Int32) : F_176x G0 b = pj_nm (pj_fi G0 171 3) (fun y1 => pj_nm (y1 - (Int32.ofInt 1)) (fun z2 => pj_nm (F_171x G0 b.toInt64 (Int64.ofNat 0) z2.toInt64) (fun y7 => y7))) := rfl
theorem ct_175x (G0 : pj_G) (hI : pj_Inv G0) (b : Int32) : pj_Y 2 175 [.ref 171, .int b] G0 (fun v' G' => ∃ y : Int32, v' = some (.int y) ∧ G0 = G' ∧ ((0 : Int) ≤ y.toInt ∧ y.toInt ≤ 1) ∧ (∀ H, G0 = H → (1 ≤ y.toInt → 0 ≤ b.toInt ∧ b.toInt ≤ 7 ∧ b.toInt < (pj_fi H 171 3).toInt)) ∧ (y = F_176x G0 b)) := by
  have c0_ : (Int32.ofInt 1).toInt = 1 := by decide
  refine pj_Y_X (M := pj_m175) rfl rfl (Nat.le_of_ble_eq_true rfl) ?_
  have hK : pj_kpt ([], [], []) G0 G0 := pj_kpt_r _ _
  show pj_X _ _ G0 0 [(0, .ref 171), (1, .int b)] [] _
  rw [F_176x_e]
  obtain ⟨y1, hy1⟩ : ∃ z : Int32, z = pj_fi G0 171 3 := ⟨_, rfl⟩
  have ey1 : (pj_fi G0 171 3).toInt = y1.toInt := by rw [hy1]
  have ry1 : (0 : Int) ≤ y1.toInt ∧ y1.toInt ≤ 8 := by rw [hy1]; exact hI.2.1 171 3 (0, 8) rfl
  refine pj_X_of (fun r h => pj_R_to (G0, 4, [(0, .ref 171), (1, .int b)], [.ref 171, .long (Int64.ofNat 0), .long b.toInt64], 0, 0) 4 5 (fun _ => rfl) h) ?_
  refine pj_X_of (fun r h => pj_T_gi hI rfl rfl h) ?_
  show pj_X _ _ G0 7 [(0, .ref 171), (1, .int b)] [.int (pj_fi G0 171 3), .long (Int64.ofNat 0), .long b.toInt64] _
  rw [← hy1, pj_nm_e]
  refine pj_X_of (fun r h => pj_R_to (G0, 9, [(0, .ref 171), (1, .int b)], [.int (y1 - (Int32.ofInt 1)), .long (Int64.ofNat 0), .long b.toInt64], 0, 0) 9 3 (fun _ => rfl) h) ?_
  obtain ⟨z2, hz2⟩ : ∃ z : Int32, z = y1 - (Int32.ofInt 1) := ⟨_, rfl⟩
  refine pj_X_eqi hz2.symm ?_
  rw [← hz2, pj_nm_e]
  have fz2_0 : z2.toInt = y1.toInt - (Int32.ofInt 1).toInt := by rw [hz2]; exact pj_subI (by have := pj_i32 y1; have := pj_i32 (Int32.ofInt 1); omega) (by have := pj_i32 y1; have := pj_i32 (Int32.ofInt 1); omega)
  refine pj_X_of (fun r h => pj_R_to (G0, 10, [(0, .ref 171), (1, .int b)], [.long z2.toInt64, .long (Int64.ofNat 0), .long b.toInt64], 0, 0) 10 2 (fun _ => rfl) h) ?_
  have q3 : (pj_fi G0 171 3).toInt = y1.toInt := by rw [show pj_fi G0 171 3 = y1 from hy1.symm]
  have lc4 : (b.toInt64).toInt = b.toInt := Int32.toInt_toInt64 _
  have lc5 : (Int64.ofNat 0).toInt = 0 := by decide
  have lc6 : (z2.toInt64).toInt = z2.toInt := Int32.toInt_toInt64 _
  refine pj_X_ca (vs := [.long b.toInt64, .long (Int64.ofNat 0), .long z2.toInt64]) rfl (fun _ => rfl) ⟨Nat.le_of_ble_eq_true rfl, Nat.le_of_ble_eq_true rfl, rfl⟩ ⟨rfl, rfl⟩ (pj_Y_up (by decide) (ct_170x G0 hI b.toInt64 (Int64.ofNat 0) z2.toInt64)) ?_
  rintro _ _ ⟨y7, rfl, rfl, ry7, ey7, fy7⟩
  rw [← fy7, pj_nm_e]
  show pj_X _ _ G0 13 [(0, .ref 171), (1, .int b)] [.int y7] _
  have q8 : (pj_fi G0 171 3).toInt = y1.toInt := by rw [show pj_fi G0 171 3 = y1 from hy1.symm]
  exact pj_X_rt (v := some (.int y7)) rfl (pj_rtb ⟨by omega, by omega⟩) ⟨_, rfl, rfl, ⟨by omega, by omega⟩, (fun H hH => by subst hH; exact (by omega)), rfl⟩
theorem fr_176x (G0 : pj_G) (hI : pj_Inv G0) (b : Int32) : ((0 : Int) ≤ (F_176x G0 b).toInt ∧ (F_176x G0 b).toInt ≤ 1) ∧ (1 ≤ (F_176x G0 b).toInt → 0 ≤ b.toInt ∧ b.toInt ≤ 7 ∧ b.toInt < (pj_fi G0 171 3).toInt) := by
  obtain ⟨v, G', -, y, -, rfl, r, x, e⟩ := ct_175x G0 hI b
  rw [← e]
  exact ⟨r, x _ rfl⟩
noncomputable def F_177x (G0 : pj_G) (b : Int32) : Int32 := pj_nm (pj_fi G0 171 4) (fun y1 => pj_nm (y1 - (Int32.ofInt 1)) (fun z2 => pj_nm (F_171x G0 b.toInt64 (Int64.ofNat 0) z2.toInt64) (fun y7 => y7)))
theorem F_177x_e (G0 : pj_G) (b : Int32) : F_177x G0 b = pj_nm (pj_fi G0 171 4) (fun y1 => pj_nm (y1 - (Int32.ofInt 1)) (fun z2 => pj_nm (F_171x G0 b.toInt64 (Int64.ofNat 0) z2.toInt64) (fun y7 => y7))) := rfl
theorem ct_176x (G0 : pj_G) (hI : pj_Inv G0) (b : Int32) : pj_Y 2 176 [.ref 171, .int b] G0 (fun v' G' => ∃ y : Int32, v' = some (.int y) ∧ G0 = G' ∧ ((0 : Int) ≤ y.toInt ∧ y.toInt ≤ 1) ∧ (∀ H, G0 = H → (1 ≤ y.toInt → 0 ≤ b.toInt ∧ b.toInt ≤ 9 ∧ b.toInt < (pj_fi H 171 4).toInt)) ∧ (y = F_177x G0 b)) := by
  have c0_ : (Int32.ofInt 1).toInt = 1 := by decide
  refine pj_Y_X (M := pj_m176) rfl rfl (Nat.le_of_ble_eq_true rfl) ?_
  have hK : pj_kpt ([], [], []) G0 G0 := pj_kpt_r _ _
  show pj_X _ _ G0 0 [(0, .ref 171), (1, .int b)] [] _
  rw [F_177x_e]
  obtain ⟨y1, hy1⟩ : ∃ z : Int32, z = pj_fi G0 171 4 := ⟨_, rfl⟩
  have ey1 : (pj_fi G0 171 4).toInt = y1.toInt := by rw [hy1]
  have ry1 : (0 : Int) ≤ y1.toInt ∧ y1.toInt ≤ 10 := by rw [hy1]; exact hI.2.1 171 4 (0, 10) rfl
  refine pj_X_of (fun r h => pj_R_to (G0, 4, [(0, .ref 171), (1, .int b)], [.ref 171, .long (Int64.ofNat 0), .long b.toInt64], 0, 0) 4 5 (fun _ => rfl) h) ?_
  refine pj_X_of (fun r h => pj_T_gi hI rfl rfl h) ?_
  show pj_X _ _ G0 7 [(0, .ref 171), (1, .int b)] [.int (pj_fi G0 171 4), .long (Int64.ofNat 0), .long b.toInt64] _
  rw [← hy1, pj_nm_e]
  refine pj_X_of (fun r h => pj_R_to (G0, 9, [(0, .ref 171), (1, .int b)], [.int (y1 - (Int32.ofInt 1)), .long (Int64.ofNat 0), .long b.toInt64], 0, 0) 9 3 (fun _ => rfl) h) ?_
  obtain ⟨z2, hz2⟩ : ∃ z : Int32, z = y1 - (Int32.ofInt 1) := ⟨_, rfl⟩
  refine pj_X_eqi hz2.symm ?_
  rw [← hz2, pj_nm_e]
  have fz2_0 : z2.toInt = y1.toInt - (Int32.ofInt 1).toInt := by rw [hz2]; exact pj_subI (by have := pj_i32 y1; have := pj_i32 (Int32.ofInt 1); omega) (by have := pj_i32 y1; have := pj_i32 (Int32.ofInt 1); omega)
  refine pj_X_of (fun r h => pj_R_to (G0, 10, [(0, .ref 171), (1, .int b)], [.long z2.toInt64, .long (Int64.ofNat 0), .long b.toInt64], 0, 0) 10 2 (fun _ => rfl) h) ?_
  have q3 : (pj_fi G0 171 4).toInt = y1.toInt := by rw [show pj_fi G0 171 4 = y1 from hy1.symm]
  have lc4 : (b.toInt64).toInt = b.toInt := Int32.toInt_toInt64 _
  have lc5 : (Int64.ofNat 0).toInt = 0 := by decide
  have lc6 : (z2.toInt64).toInt = z2.toInt := Int32.toInt_toInt64 _
  refine pj_X_ca (vs := [.long b.toInt64, .long (Int64.ofNat 0), .long z2.toInt64]) rfl (fun _ => rfl) ⟨Nat.le_of_ble_eq_true rfl, Nat.le_of_ble_eq_true rfl, rfl⟩ ⟨rfl, rfl⟩ (pj_Y_up (by decide) (ct_170x G0 hI b.toInt64 (Int64.ofNat 0) z2.toInt64)) ?_
  rintro _ _ ⟨y7, rfl, rfl, ry7, ey7, fy7⟩
  rw [← fy7, pj_nm_e]
  show pj_X _ _ G0 13 [(0, .ref 171), (1, .int b)] [.int y7] _
  have q8 : (pj_fi G0 171 4).toInt = y1.toInt := by rw [show pj_fi G0 171 4 = y1 from hy1.symm]
  exact pj_X_rt (v := some (.int y7)) rfl (pj_rtb ⟨by omega, by omega⟩) ⟨_, rfl, rfl, ⟨by omega, by omega⟩, (fun H hH => by subst hH; exact (by omega)), rfl⟩
theorem fr_177x (G0 : pj_G) (hI : pj_Inv G0) (b : Int32) : ((0 : Int) ≤ (F_177x G0 b).toInt ∧ (F_177x G0 b).toInt ≤ 1) ∧ (1 ≤ (F_177x G0 b).toInt → 0 ≤ b.toInt ∧ b.toInt ≤ 9 ∧ b.toInt < (pj_fi G0 171 4).toInt) := by
  obtain ⟨v, G', -, y, -, rfl, r, x, e⟩ := ct_176x G0 hI b
  rw [← e]
  exact ⟨r, x _ rfl⟩
noncomputable def F_178x (G0 : pj_G) (b : Int32) : Int32 := pj_nm (pj_fi G0 171 5) (fun y1 => pj_nm (y1 - (Int32.ofInt 1)) (fun z2 => pj_nm (F_171x G0 b.toInt64 (Int64.ofNat 0) z2.toInt64) (fun y7 => y7)))
theorem F_178x_e (G0 : pj_G) (b : Int32) : F_178x G0 b = pj_nm (pj_fi G0 171 5) (fun y1 => pj_nm (y1 - (Int32.ofInt 1)) (fun z2 => pj_nm (F_171x G0 b.toInt64 (Int64.ofNat 0) z2.toInt64) (fun y7 => y7))) := rfl
theorem ct_177x (G0 : pj_G) (hI : pj_Inv G0) (b : Int32) : pj_Y 2 177 [.ref 171, .int b] G0 (fun v' G' => ∃ y : Int32, v' = some (.int y) ∧ G0 = G' ∧ ((0 : Int) ≤ y.toInt ∧ y.toInt ≤ 1) ∧ (∀ H, G0 = H → (1 ≤ y.toInt → 0 ≤ b.toInt ∧ b.toInt ≤ 5 ∧ b.toInt < (pj_fi H 171 5).toInt)) ∧ (y = F_178x G0 b)) := by
  have c0_ : (Int32.ofInt 1).toInt = 1 := by decide
  refine pj_Y_X (M := pj_m177) rfl rfl (Nat.le_of_ble_eq_true rfl) ?_
  have hK : pj_kpt ([], [], []) G0 G0 := pj_kpt_r _ _
  show pj_X _ _ G0 0 [(0, .ref 171), (1, .int b)] [] _
  rw [F_178x_e]
  obtain ⟨y1, hy1⟩ : ∃ z : Int32, z = pj_fi G0 171 5 := ⟨_, rfl⟩
  have ey1 : (pj_fi G0 171 5).toInt = y1.toInt := by rw [hy1]
  have ry1 : (0 : Int) ≤ y1.toInt ∧ y1.toInt ≤ 6 := by rw [hy1]; exact hI.2.1 171 5 (0, 6) rfl
  refine pj_X_of (fun r h => pj_R_to (G0, 4, [(0, .ref 171), (1, .int b)], [.ref 171, .long (Int64.ofNat 0), .long b.toInt64], 0, 0) 4 5 (fun _ => rfl) h) ?_
  refine pj_X_of (fun r h => pj_T_gi hI rfl rfl h) ?_
  show pj_X _ _ G0 7 [(0, .ref 171), (1, .int b)] [.int (pj_fi G0 171 5), .long (Int64.ofNat 0), .long b.toInt64] _
  rw [← hy1, pj_nm_e]
  refine pj_X_of (fun r h => pj_R_to (G0, 9, [(0, .ref 171), (1, .int b)], [.int (y1 - (Int32.ofInt 1)), .long (Int64.ofNat 0), .long b.toInt64], 0, 0) 9 3 (fun _ => rfl) h) ?_
  obtain ⟨z2, hz2⟩ : ∃ z : Int32, z = y1 - (Int32.ofInt 1) := ⟨_, rfl⟩
  refine pj_X_eqi hz2.symm ?_
  rw [← hz2, pj_nm_e]
  have fz2_0 : z2.toInt = y1.toInt - (Int32.ofInt 1).toInt := by rw [hz2]; exact pj_subI (by have := pj_i32 y1; have := pj_i32 (Int32.ofInt 1); omega) (by have := pj_i32 y1; have := pj_i32 (Int32.ofInt 1); omega)
  refine pj_X_of (fun r h => pj_R_to (G0, 10, [(0, .ref 171), (1, .int b)], [.long z2.toInt64, .long (Int64.ofNat 0), .long b.toInt64], 0, 0) 10 2 (fun _ => rfl) h) ?_
  have q3 : (pj_fi G0 171 5).toInt = y1.toInt := by rw [show pj_fi G0 171 5 = y1 from hy1.symm]
  have lc4 : (b.toInt64).toInt = b.toInt := Int32.toInt_toInt64 _
  have lc5 : (Int64.ofNat 0).toInt = 0 := by decide
  have lc6 : (z2.toInt64).toInt = z2.toInt := Int32.toInt_toInt64 _
  refine pj_X_ca (vs := [.long b.toInt64, .long (Int64.ofNat 0), .long z2.toInt64]) rfl (fun _ => rfl) ⟨Nat.le_of_ble_eq_true rfl, Nat.le_of_ble_eq_true rfl, rfl⟩ ⟨rfl, rfl⟩ (pj_Y_up (by decide) (ct_170x G0 hI b.toInt64 (Int64.ofNat 0) z2.toInt64)) ?_
  rintro _ _ ⟨y7, rfl, rfl, ry7, ey7, fy7⟩
  rw [← fy7, pj_nm_e]
  show pj_X _ _ G0 13 [(0, .ref 171), (1, .int b)] [.int y7] _
  have q8 : (pj_fi G0 171 5).toInt = y1.toInt := by rw [show pj_fi G0 171 5 = y1 from hy1.symm]
  exact pj_X_rt (v := some (.int y7)) rfl (pj_rtb ⟨by omega, by omega⟩) ⟨_, rfl, rfl, ⟨by omega, by omega⟩, (fun H hH => by subst hH; exact (by omega)), rfl⟩
theorem fr_178x (G0 : pj_G) (hI : pj_Inv G0) (b : Int32) : ((0 : Int) ≤ (F_178x G0 b).toInt ∧ (F_178x G0 b).toInt ≤ 1) ∧ (1 ≤ (F_178x G0 b).toInt → 0 ≤ b.toInt ∧ b.toInt ≤ 5 ∧ b.toInt < (pj_fi G0 171 5).toInt) := by
  obtain ⟨v, G', -, y, -, rfl, r, x, e⟩ := ct_177x G0 hI b
  rw [← e]
  exact ⟨r, x _ rfl⟩
noncomputable def F_179x (G0 : pj_G) (b : Int32) : Int32 := pj_nm (pj_fi G0 171 6) (fun y1 => pj_nm (y1 - (Int32.ofInt 1)) (fun z2 => pj_nm (F_171x G0 b.toInt64 (Int64.ofNat 0) z2.toInt64) (fun y7 => y7)))
theorem F_179x_e (G0 : pj_G) (b : Int32) : F_179x G0 b = pj_nm (pj_fi G0 171 6) (fun y1 => pj_nm (y1 - (Int32.ofInt 1)) (fun z2 => pj_nm (F_171x G0 b.toInt64 (Int64.ofNat 0) z2.toInt64) (fun y7 => y7))) := rfl
theorem ct_178x (G0 : pj_G) (hI : pj_Inv G0) (b : Int32) : pj_Y 2 178 [.ref 171, .int b] G0 (fun v' G' => ∃ y : Int32, v' = some (.int y) ∧ G0 = G' ∧ ((0 : Int) ≤ y.toInt ∧ y.toInt ≤ 1) ∧ (∀ H, G0 = H → (1 ≤ y.toInt → 0 ≤ b.toInt ∧ b.toInt ≤ 5 ∧ b.toInt < (pj_fi H 171 6).toInt)) ∧ (y = F_179x G0 b)) := by
  have c0_ : (Int32.ofInt 1).toInt = 1 := by decide
  refine pj_Y_X (M := pj_m178) rfl rfl (Nat.le_of_ble_eq_true rfl) ?_
  have hK : pj_kpt ([], [], []) G0 G0 := pj_kpt_r _ _
  show pj_X _ _ G0 0 [(0, .ref 171), (1, .int b)] [] _
  rw [F_179x_e]
  obtain ⟨y1, hy1⟩ : ∃ z : Int32, z = pj_fi G0 171 6 := ⟨_, rfl⟩
  have ey1 : (pj_fi G0 171 6).toInt = y1.toInt := by rw [hy1]
  have ry1 : (0 : Int) ≤ y1.toInt ∧ y1.toInt ≤ 6 := by rw [hy1]; exact hI.2.1 171 6 (0, 6) rfl
  refine pj_X_of (fun r h => pj_R_to (G0, 4, [(0, .ref 171), (1, .int b)], [.ref 171, .long (Int64.ofNat 0), .long b.toInt64], 0, 0) 4 5 (fun _ => rfl) h) ?_
  refine pj_X_of (fun r h => pj_T_gi hI rfl rfl h) ?_
  show pj_X _ _ G0 7 [(0, .ref 171), (1, .int b)] [.int (pj_fi G0 171 6), .long (Int64.ofNat 0), .long b.toInt64] _
  rw [← hy1, pj_nm_e]
  refine pj_X_of (fun r h => pj_R_to (G0, 9, [(0, .ref 171), (1, .int b)], [.int (y1 - (Int32.ofInt 1)), .long (Int64.ofNat 0), .long b.toInt64], 0, 0) 9 3 (fun _ => rfl) h) ?_
  obtain ⟨z2, hz2⟩ : ∃ z : Int32, z = y1 - (Int32.ofInt 1) := ⟨_, rfl⟩
  refine pj_X_eqi hz2.symm ?_
  rw [← hz2, pj_nm_e]
  have fz2_0 : z2.toInt = y1.toInt - (Int32.ofInt 1).toInt := by rw [hz2]; exact pj_subI (by have := pj_i32 y1; have := pj_i32 (Int32.ofInt 1); omega) (by have := pj_i32 y1; have := pj_i32 (Int32.ofInt 1); omega)
  refine pj_X_of (fun r h => pj_R_to (G0, 10, [(0, .ref 171), (1, .int b)], [.long z2.toInt64, .long (Int64.ofNat 0), .long b.toInt64], 0, 0) 10 2 (fun _ => rfl) h) ?_
  have q3 : (pj_fi G0 171 6).toInt = y1.toInt := by rw [show pj_fi G0 171 6 = y1 from hy1.symm]
  have lc4 : (b.toInt64).toInt = b.toInt := Int32.toInt_toInt64 _
  have lc5 : (Int64.ofNat 0).toInt = 0 := by decide
  have lc6 : (z2.toInt64).toInt = z2.toInt := Int32.toInt_toInt64 _
  refine pj_X_ca (vs := [.long b.toInt64, .long (Int64.ofNat 0), .long z2.toInt64]) rfl (fun _ => rfl) ⟨Nat.le_of_ble_eq_true rfl, Nat.le_of_ble_eq_true rfl, rfl⟩ ⟨rfl, rfl⟩ (pj_Y_up (by decide) (ct_170x G0 hI b.toInt64 (Int64.ofNat 0) z2.toInt64)) ?_
  rintro _ _ ⟨y7, rfl, rfl, ry7, ey7, fy7⟩
  rw [← fy7, pj_nm_e]
  show pj_X _ _ G0 13 [(0, .ref 171), (1, .int b)] [.int y7] _
  have q8 : (pj_fi G0 171 6).toInt = y1.toInt := by rw [show pj_fi G0 171 6 = y1 from hy1.symm]
  exact pj_X_rt (v := some (.int y7)) rfl (pj_rtb ⟨by omega, by omega⟩) ⟨_, rfl, rfl, ⟨by omega, by omega⟩, (fun H hH => by subst hH; exact (by omega)), rfl⟩
theorem fr_179x (G0 : pj_G) (hI : pj_Inv G0) (b : Int32) : ((0 : Int) ≤ (F_179x G0 b).toInt ∧ (F_179x G0 b).toInt ≤ 1) ∧ (1 ≤ (F_179x G0 b).toInt → 0 ≤ b.toInt ∧ b.toInt ≤ 5 ∧ b.toInt < (pj_fi G0 171 6).toInt) := by
  obtain ⟨v, G', -, y, -, rfl, r, x, e⟩ := ct_178x G0 hI b
  rw [← e]
  exact ⟨r, x _ rfl⟩
def kc_179 : pj_KT := ([(171, 0), (171, 16)], [171, 180], [180])
theorem lp_ct_179 (G0 : pj_G) (hI0 : pj_Inv G0) (v : Int32) : ∀ mn : Nat, (∀ (G : pj_G) (hI : pj_Inv G) (hK : pj_kpt kc_179 G0 G) (v2 : Int32), ((0 : Int) ≤ v2.toInt ∧ v2.toInt ≤ 4) → ((pj_fi G 171 16).toInt ≤ 76) → 4 - v2.toInt < (mn : Int) → pj_X 0 pj_m179 G 18 [(0, .ref 171), (1, .int v), (2, .int v2)] [] (fun v G' => ∃ y : Int32, v = some (.int y) ∧ pj_Inv G' ∧ pj_kpt kc_179 G0 G' ∧ ((-1 : Int) ≤ y.toInt ∧ y.toInt ≤ 80))) := by
  have c0_ : ((Int16.ofInt 255).toInt32).toInt = 255 := by decide
  have c1_ : ((Int8.ofInt 24).toInt32).toInt = 24 := by decide
  have c2_ : ((Int8.ofInt 76).toInt32).toInt = 76 := by decide
  have c3_ : ((Int8.ofInt 8).toInt32).toInt = 8 := by decide
  have c4_ : (Int32.ofInt (-1)).toInt = -1 := by decide
  have c5_ : (Int32.ofInt 0).toInt = 0 := by decide
  have c6_ : (Int32.ofInt 1).toInt = 1 := by decide
  have c7_ : (Int32.ofInt 4).toInt = 4 := by decide
  intro mn
  induction mn with
  | zero =>
    intro G hI hK v2 rv2 x0_ hm
    exfalso
    omega
  | succ mn ih =>
    intro G hI hK v2 rv2 x0_ hm
    obtain ⟨y1, hy1⟩ : ∃ z : Int32, z = pj_fi G 171 16 := ⟨_, rfl⟩
    have ey1 : (pj_fi G 171 16).toInt = y1.toInt := by rw [hy1]
    have ry1 : (0 : Int) ≤ y1.toInt ∧ y1.toInt ≤ 80 := by rw [hy1]; exact hI.2.1 171 16 (0, 80) rfl
    refine pj_X_of (fun r h => pj_R_to (G, 20, [(0, .ref 171), (1, .int v), (2, .int v2)], [.int (Int32.ofInt 4), .int v2], 0, 0) 20 3 (fun _ => rfl) h) ?_
    cases b2 : pj_c1 .ge v2 (Int32.ofInt 4) with
    | true =>
      have ub2 := pj_u_geT b2
      refine pj_X_of (fun r h => pj_R_icT 53 rfl rfl b2 h) ?_
      refine pj_X_of (fun r h => pj_R_to (G, 55, [(0, .ref 171), (1, .int v), (2, .int v2)], [.ref 171, .ref 171], 0, 0) 55 3 (fun _ => rfl) h) ?_
      refine pj_X_of (fun r h => pj_T_gi hI rfl rfl h) ?_
      show pj_X _ _ G 58 [(0, .ref 171), (1, .int v), (2, .int v2)] [.int (pj_fi G 171 16), .ref 171] _
      refine pj_X_eqi (show pj_fi G 171 16 = y1 from hy1.symm) ?_
      refine pj_X_of (fun r h => pj_R_to (G, 60, [(0, .ref 171), (1, .int v), (2, .int v2)], [.int (y1 + (Int32.ofInt 4)), .ref 171], 0, 0) 60 3 (fun _ => rfl) h) ?_
      obtain ⟨z3, hz3⟩ : ∃ z : Int32, z = y1 + (Int32.ofInt 4) := ⟨_, rfl⟩
      refine pj_X_eqi hz3.symm ?_
      have fz3_0 : z3.toInt = y1.toInt + (Int32.ofInt 4).toInt := by rw [hz3]; exact pj_addI (by have := pj_i32 y1; have := pj_i32 (Int32.ofInt 4); omega) (by have := pj_i32 y1; have := pj_i32 (Int32.ofInt 4); omega)
      refine pj_X_of (fun r h => pj_T_pf hI rfl rfl rfl h) ?_
      show pj_X _ _ (pj_wv G 171 16 (.int z3)) 63 [(0, .ref 171), (1, .int v), (2, .int v2)] [] _
      obtain ⟨G4, hG4⟩ : ∃ H, H = pj_wv G 171 16 (.int z3) := ⟨_, rfl⟩
      have iG4 : pj_Inv G4 := by rw [hG4]; exact pj_Inv_wi hI (ci := 12) rfl (fun q hq => by cases hq; exact ⟨by show (0 : Int) ≤ _; omega, by show _ ≤ (80 : Int); omega⟩)
      have kG4 : pj_kpt kc_179 G0 G4 := by rw [hG4]; exact pj_kpt_v hK rfl
      rw [← hG4]
      refine pj_X_of (fun r h => pj_R_to (G4, 64, [(0, .ref 171), (1, .int v), (2, .int v2)], [.ref 171], 0, 0) 64 2 (fun _ => rfl) h) ?_
      refine pj_X_of (fun r h => pj_T_gi iG4 rfl rfl h) ?_
      show pj_X _ _ G4 67 [(0, .ref 171), (1, .int v), (2, .int v2)] [.int (pj_fi G4 171 16)] _
      refine pj_X_eqi (show pj_fi G4 171 16 = z3 from by rw [hG4]; exact pj_fi_wi hI.1 (ci := 12) rfl _) ?_
      have q5 : (pj_fi G4 171 16).toInt = z3.toInt := by rw [show pj_fi G4 171 16 = z3 from by rw [hG4]; exact pj_fi_wi hI.1 (ci := 12) rfl _]
      exact pj_X_rt rfl rfl ⟨_, rfl, iG4, kG4, ⟨by omega, by omega⟩⟩
    | false =>
      have ub2 := pj_u_geF b2
      refine pj_X_of (fun r h => pj_R_icF rfl b2 h) ?_
      refine pj_X_of (fun r h => pj_R_to (G, 24, [(0, .ref 171), (1, .int v), (2, .int v2)], [.ref 171], 0, 0) 24 2 (fun _ => rfl) h) ?_
      refine pj_X_of (fun r h => pj_T_gr hI rfl rfl rfl h) ?_
      refine pj_X_of (fun r h => pj_R_to (G, 28, [(0, .ref 171), (1, .int v), (2, .int v2)], [.ref 171, .ref 180], 0, 0) 28 2 (fun _ => rfl) h) ?_
      refine pj_X_of (fun r h => pj_T_gi hI rfl rfl h) ?_
      show pj_X _ _ G 31 [(0, .ref 171), (1, .int v), (2, .int v2)] [.int (pj_fi G 171 16), .ref 180] _
      refine pj_X_eqi (show pj_fi G 171 16 = y1 from hy1.symm) ?_
      refine pj_X_of (fun r h => pj_R_to (G, 33, [(0, .ref 171), (1, .int v), (2, .int v2)], [.int (y1 + v2), .ref 180], 0, 0) 33 3 (fun _ => rfl) h) ?_
      obtain ⟨z6, hz6⟩ : ∃ z : Int32, z = y1 + v2 := ⟨_, rfl⟩
      refine pj_X_eqi hz6.symm ?_
      have fz6_0 : z6.toInt = y1.toInt + v2.toInt := by rw [hz6]; exact pj_addI (by have := pj_i32 y1; have := pj_i32 v2; omega) (by have := pj_i32 y1; have := pj_i32 v2; omega)
      refine pj_X_of (fun r h => pj_R_to (G, 40, [(0, .ref 171), (1, .int v), (2, .int v2)], [.int (((Int8.ofInt 8).toInt32) * v2), .int ((Int8.ofInt 24).toInt32), .int v, .int z6, .ref 180], 0, 0) 40 6 (fun _ => rfl) h) ?_
      obtain ⟨z7, hz7⟩ : ∃ z : Int32, z = ((Int8.ofInt 8).toInt32) * v2 := ⟨_, rfl⟩
      refine pj_X_eqi hz7.symm ?_
      have fz7_0 : z7.toInt = 8 * v2.toInt := by rw [hz7]; exact pj_mulL (by decide) (by omega) (by omega)
      refine pj_X_of (fun r h => pj_R_to (G, 41, [(0, .ref 171), (1, .int v), (2, .int v2)], [.int (((Int8.ofInt 24).toInt32) - z7), .int v, .int z6, .ref 180], 0, 0) 41 2 (fun _ => rfl) h) ?_
      obtain ⟨z8, hz8⟩ : ∃ z : Int32, z = ((Int8.ofInt 24).toInt32) - z7 := ⟨_, rfl⟩
      refine pj_X_eqi hz8.symm ?_
      have fz8_0 : z8.toInt = ((Int8.ofInt 24).toInt32).toInt - z7.toInt := by rw [hz8]; exact pj_subI (by have := pj_i32 ((Int8.ofInt 24).toInt32); have := pj_i32 z7; omega) (by have := pj_i32 ((Int8.ofInt 24).toInt32); have := pj_i32 z7; omega)
      refine pj_X_of (fun r h => pj_R_to (G, 42, [(0, .ref 171), (1, .int v), (2, .int v2)], [.int (v >>> (z8 &&& 31)), .int z6, .ref 180], 0, 0) 42 2 (fun _ => rfl) h) ?_
      obtain ⟨z9, hz9⟩ : ∃ z : Int32, z = v >>> (z8 &&& 31) := ⟨_, rfl⟩
      refine pj_X_eqi hz9.symm ?_
      refine pj_X_of (fun r h => pj_R_to (G, 46, [(0, .ref 171), (1, .int v), (2, .int v2)], [.int (z9 &&& ((Int16.ofInt 255).toInt32)), .int z6, .ref 180], 0, 0) 46 3 (fun _ => rfl) h) ?_
      obtain ⟨z10, hz10⟩ : ∃ z : Int32, z = z9 &&& ((Int16.ofInt 255).toInt32) := ⟨_, rfl⟩
      refine pj_X_eqi hz10.symm ?_
      have fz10_0 : 0 ≤ z10.toInt ∧ z10.toInt ≤ ((Int16.ofInt 255).toInt32).toInt := by rw [hz10]; exact pj_andI (by omega)
      refine pj_X_of (fun r h => pj_T_is hI rfl rfl (by omega) (by omega) h) ?_
      show pj_X _ _ (pj_wa G 180 z6.toInt.toNat z10) 47 [(0, .ref 171), (1, .int v), (2, .int v2)] [] _
      obtain ⟨G11, hG11⟩ : ∃ H, H = pj_wa G 180 z6.toInt.toNat z10 := ⟨_, rfl⟩
      have iG11 : pj_Inv G11 := by rw [hG11]; exact pj_Inv_wa hI rfl (fun q hq => by cases hq; exact ⟨by show (0 : Int) ≤ _; omega, by show _ ≤ (255 : Int); omega, by show _ ≤ (0 : Int) ∨ (0 : Int) ≤ _; omega⟩) (fun n hn => by cases hn)
      have kG11 : pj_kpt kc_179 G0 G11 := by rw [hG11]; exact pj_kpt_a hK rfl
      rw [← hG11]
      refine pj_X_of (fun r h => pj_R_to (G11, 50, [(2, .int (v2 + Int32.ofInt 1)), (0, .ref 171), (1, .int v)], [], 0, 0) 50 2 (fun _ => rfl) h) ?_
      obtain ⟨z12, hz12⟩ : ∃ z : Int32, z = v2 + Int32.ofInt 1 := ⟨_, rfl⟩
      rw [← hz12]
      have fz12_0 : z12.toInt = v2.toInt + (Int32.ofInt 1).toInt := by rw [hz12]; exact pj_addI (by have := pj_i32 v2; have := pj_i32 (Int32.ofInt 1); omega) (by have := pj_i32 v2; have := pj_i32 (Int32.ofInt 1); omega)
      refine pj_X_of (fun r h => pj_R_to (G11, 18, [(2, .int z12), (0, .ref 171), (1, .int v)], [], 0, 0) 18 2 (fun _ => rfl) h) ?_
      have q13 : (pj_fi G11 171 16).toInt = y1.toInt := by rw [show pj_fi G11 171 16 = y1 from by rw [hG11, pj_fi_wa]; exact hy1.symm]
      exact pj_X_sub [(0, .ref 171), (1, .int v), (2, .int z12)] (show List.Nodup [0, 1, 2] by decide) ⟨rfl, rfl, rfl, trivial⟩ (ih G11 iG11 kG11 z12 ⟨by omega, by omega⟩ (by omega) (by omega))
theorem ct_179 (G0 : pj_G) (hI : pj_Inv G0) (v : Int32) : pj_Y 1 179 [.ref 171, .int v] G0 (fun v G' => ∃ y : Int32, v = some (.int y) ∧ pj_Inv G' ∧ pj_kpt kc_179 G0 G' ∧ ((-1 : Int) ≤ y.toInt ∧ y.toInt ≤ 80)) := by
  have c0_ : ((Int16.ofInt 255).toInt32).toInt = 255 := by decide
  have c1_ : ((Int8.ofInt 24).toInt32).toInt = 24 := by decide
  have c2_ : ((Int8.ofInt 76).toInt32).toInt = 76 := by decide
  have c3_ : ((Int8.ofInt 8).toInt32).toInt = 8 := by decide
  have c4_ : (Int32.ofInt (-1)).toInt = -1 := by decide
  have c5_ : (Int32.ofInt 0).toInt = 0 := by decide
  have c6_ : (Int32.ofInt 1).toInt = 1 := by decide
  have c7_ : (Int32.ofInt 4).toInt = 4 := by decide
  refine pj_Y_X (M := pj_m179) rfl rfl (Nat.le_of_ble_eq_true rfl) ?_
  have hK : pj_kpt kc_179 G0 G0 := pj_kpt_r _ _
  show pj_X _ _ G0 0 [(0, .ref 171), (1, .int v)] [] _
  obtain ⟨y14, hy14⟩ : ∃ z : Int32, z = pj_fi G0 171 16 := ⟨_, rfl⟩
  have ey14 : (pj_fi G0 171 16).toInt = y14.toInt := by rw [hy14]
  have ry14 : (0 : Int) ≤ y14.toInt ∧ y14.toInt ≤ 80 := by rw [hy14]; exact hI.2.1 171 16 (0, 80) rfl
  refine pj_X_of (fun r h => pj_R_to (G0, 2, [(0, .ref 171), (1, .int v)], [.int (Int32.ofInt 0), .ref 171], 0, 0) 2 3 (fun _ => rfl) h) ?_
  refine pj_X_of (fun r h => pj_T_pf hI rfl rfl rfl h) ?_
  show pj_X _ _ (pj_wv G0 171 0 (.int (Int32.ofInt 0))) 5 [(0, .ref 171), (1, .int v)] [] _
  obtain ⟨G15, hG15⟩ : ∃ H, H = pj_wv G0 171 0 (.int (Int32.ofInt 0)) := ⟨_, rfl⟩
  have iG15 : pj_Inv G15 := by rw [hG15]; exact pj_Inv_wi hI (ci := 12) rfl (fun q hq => by cases hq)
  have kG15 : pj_kpt kc_179 G0 G15 := by rw [hG15]; exact pj_kpt_v hK rfl
  rw [← hG15]
  refine pj_X_of (fun r h => pj_R_to (G15, 6, [(0, .ref 171), (1, .int v)], [.ref 171], 0, 0) 6 2 (fun _ => rfl) h) ?_
  refine pj_X_of (fun r h => pj_T_gi iG15 rfl rfl h) ?_
  show pj_X _ _ G15 9 [(0, .ref 171), (1, .int v)] [.int (pj_fi G15 171 16)] _
  refine pj_X_eqi (show pj_fi G15 171 16 = y14 from by rw [hG15, pj_fi_wv_ne _ _ _ _ _ _ (by decide)]; exact hy14.symm) ?_
  refine pj_X_of (fun r h => pj_R_to (G15, 11, [(0, .ref 171), (1, .int v)], [.int ((Int8.ofInt 76).toInt32), .int y14], 0, 0) 11 2 (fun _ => rfl) h) ?_
  cases b16 : pj_c1 .le y14 ((Int8.ofInt 76).toInt32) with
  | true =>
    have ub16 := pj_u_leT b16
    refine pj_X_of (fun r h => pj_R_icT 16 rfl rfl b16 h) ?_
    refine pj_X_of (fun r h => pj_R_to (G15, 18, [(2, .int (Int32.ofInt 0)), (0, .ref 171), (1, .int v)], [], 0, 0) 18 3 (fun _ => rfl) h) ?_
    have q17 : (pj_fi G15 171 16).toInt = y14.toInt := by rw [show pj_fi G15 171 16 = y14 from by rw [hG15, pj_fi_wv_ne _ _ _ _ _ _ (by decide)]; exact hy14.symm]
    exact pj_X_sub [(0, .ref 171), (1, .int v), (2, .int (Int32.ofInt 0))] (show List.Nodup [0, 1, 2] by decide) ⟨rfl, rfl, rfl, trivial⟩ ((lp_ct_179 G0 hI v  5) G15 iG15 kG15 (Int32.ofInt 0) ⟨by omega, by omega⟩ (by omega) (by omega))
  | false =>
    have ub16 := pj_u_leF b16
    refine pj_X_of (fun r h => pj_R_icF rfl b16 h) ?_
    refine pj_X_of (fun r h => pj_R_to (G15, 15, [(0, .ref 171), (1, .int v)], [.int (Int32.ofInt (-1))], 0, 0) 15 2 (fun _ => rfl) h) ?_
    have q18 : (pj_fi G15 171 16).toInt = y14.toInt := by rw [show pj_fi G15 171 16 = y14 from by rw [hG15, pj_fi_wv_ne _ _ _ _ _ _ (by decide)]; exact hy14.symm]
    exact pj_X_rt rfl rfl ⟨_, rfl, iG15, kG15, ⟨by omega, by omega⟩⟩
def kc_180 : pj_KT := ([(171, 0), (171, 16)], [171], [])
theorem ct_180 (G0 : pj_G) (hI : pj_Inv G0) (n : Int32) : pj_Y 2 180 [.ref 171, .int n] G0 (fun v G' => ∃ y : Int32, v = some (.int y) ∧ pj_Inv G' ∧ pj_kpt kc_180 G0 G' ∧ ((0 : Int) ≤ y.toInt ∧ y.toInt ≤ 1)) := by
  have c0_ : (Int32.ofInt 0).toInt = 0 := by decide
  have c1_ : (Int32.ofInt 1).toInt = 1 := by decide
  refine pj_Y_X (M := pj_m180) rfl rfl (Nat.le_of_ble_eq_true rfl) ?_
  have hK : pj_kpt kc_180 G0 G0 := pj_kpt_r _ _
  show pj_X _ _ G0 0 [(0, .ref 171), (1, .int n)] [] _
  obtain ⟨y1, hy1⟩ : ∃ z : Int32, z = pj_fi G0 171 16 := ⟨_, rfl⟩
  have ey1 : (pj_fi G0 171 16).toInt = y1.toInt := by rw [hy1]
  have ry1 : (0 : Int) ≤ y1.toInt ∧ y1.toInt ≤ 80 := by rw [hy1]; exact hI.2.1 171 16 (0, 80) rfl
  refine pj_X_of (fun r h => pj_R_to (G0, 2, [(0, .ref 171), (1, .int n)], [.int (Int32.ofInt 0), .ref 171], 0, 0) 2 3 (fun _ => rfl) h) ?_
  refine pj_X_of (fun r h => pj_T_pf hI rfl rfl rfl h) ?_
  show pj_X _ _ (pj_wv G0 171 0 (.int (Int32.ofInt 0))) 5 [(0, .ref 171), (1, .int n)] [] _
  obtain ⟨G2, hG2⟩ : ∃ H, H = pj_wv G0 171 0 (.int (Int32.ofInt 0)) := ⟨_, rfl⟩
  have iG2 : pj_Inv G2 := by rw [hG2]; exact pj_Inv_wi hI (ci := 12) rfl (fun q hq => by cases hq)
  have kG2 : pj_kpt kc_180 G0 G2 := by rw [hG2]; exact pj_kpt_v hK rfl
  rw [← hG2]
  refine pj_X_of (fun r h => pj_R_to (G2, 9, [(0, .ref 171), (1, .int n)], [.ref 171, .long (Int64.ofNat 0), .long n.toInt64], 0, 0) 9 5 (fun _ => rfl) h) ?_
  refine pj_X_of (fun r h => pj_T_gi iG2 rfl rfl h) ?_
  show pj_X _ _ G2 12 [(0, .ref 171), (1, .int n)] [.int (pj_fi G2 171 16), .long (Int64.ofNat 0), .long n.toInt64] _
  refine pj_X_eqi (show pj_fi G2 171 16 = y1 from by rw [hG2, pj_fi_wv_ne _ _ _ _ _ _ (by decide)]; exact hy1.symm) ?_
  refine pj_X_of (fun r h => pj_R_to (G2, 13, [(0, .ref 171), (1, .int n)], [.long y1.toInt64, .long (Int64.ofNat 0), .long n.toInt64], 0, 0) 13 2 (fun _ => rfl) h) ?_
  have q3 : (pj_fi G2 171 16).toInt = y1.toInt := by rw [show pj_fi G2 171 16 = y1 from by rw [hG2, pj_fi_wv_ne _ _ _ _ _ _ (by decide)]; exact hy1.symm]
  have lc4 : (n.toInt64).toInt = n.toInt := Int32.toInt_toInt64 _
  have lc5 : (Int64.ofNat 0).toInt = 0 := by decide
  have lc6 : (y1.toInt64).toInt = y1.toInt := Int32.toInt_toInt64 _
  refine pj_X_ca (vs := [.long n.toInt64, .long (Int64.ofNat 0), .long y1.toInt64]) rfl (fun _ => rfl) ⟨Nat.le_of_ble_eq_true rfl, Nat.le_of_ble_eq_true rfl, rfl⟩ ⟨rfl, rfl⟩ (pj_Y_up (by decide) (ct_170x G2 iG2 n.toInt64 (Int64.ofNat 0) y1.toInt64)) ?_
  rintro _ _ ⟨y7, rfl, rfl, ry7, ey7, fy7⟩
  show pj_X _ _ G2 16 [(0, .ref 171), (1, .int n)] [.int y7] _
  cases b8 : pj_c1 .ne y7 0 with
  | true =>
    have ub8 := pj_u0_neT b8
    refine pj_X_of (fun r h => pj_R_ifT 21 rfl rfl b8 h) ?_
    refine pj_X_of (fun r h => pj_R_to (G2, 23, [(0, .ref 171), (1, .int n)], [.int n, .ref 171], 0, 0) 23 3 (fun _ => rfl) h) ?_
    refine pj_X_of (fun r h => pj_T_pf iG2 rfl rfl rfl h) ?_
    show pj_X _ _ (pj_wv G2 171 16 (.int n)) 26 [(0, .ref 171), (1, .int n)] [] _
    obtain ⟨G9, hG9⟩ : ∃ H, H = pj_wv G2 171 16 (.int n) := ⟨_, rfl⟩
    have iG9 : pj_Inv G9 := by rw [hG9]; exact pj_Inv_wi iG2 (ci := 12) rfl (fun q hq => by cases hq; exact ⟨by show (0 : Int) ≤ _; omega, by show _ ≤ (80 : Int); omega⟩)
    have kG9 : pj_kpt kc_180 G0 G9 := by rw [hG9]; exact pj_kpt_v kG2 rfl
    rw [← hG9]
    refine pj_X_of (fun r h => pj_R_to (G9, 27, [(0, .ref 171), (1, .int n)], [.int (Int32.ofInt 1)], 0, 0) 27 2 (fun _ => rfl) h) ?_
    have q10 : (pj_fi G9 171 16).toInt = n.toInt := by rw [show pj_fi G9 171 16 = n from by rw [hG9]; exact pj_fi_wi iG2.1 (ci := 12) rfl _]
    exact pj_X_rt rfl rfl ⟨_, rfl, iG9, kG9, ⟨by omega, by omega⟩⟩
  | false =>
    have ub8 := pj_u0_neF b8
    refine pj_X_of (fun r h => pj_R_ifF rfl b8 h) ?_
    refine pj_X_of (fun r h => pj_R_to (G2, 20, [(0, .ref 171), (1, .int n)], [.int (Int32.ofInt 0)], 0, 0) 20 2 (fun _ => rfl) h) ?_
    have q11 : (pj_fi G2 171 16).toInt = y1.toInt := by rw [show pj_fi G2 171 16 = y1 from by rw [hG2, pj_fi_wv_ne _ _ _ _ _ _ (by decide)]; exact hy1.symm]
    exact pj_X_rt rfl rfl ⟨_, rfl, iG2, kG2, ⟨by omega, by omega⟩⟩
def kc_181 : pj_KT := ([(171, 16), (171, 17), (171, 18), (171, 19)], [171], [])
theorem ct_181 (G0 : pj_G) (hI : pj_Inv G0) (most : Int32) (rmost : (0 : Int) ≤ most.toInt ∧ most.toInt ≤ 80) : pj_Y 1 181 [.ref 171, .int most] G0 (fun v G' => ∃ y : Int32, v = some (.int y) ∧ pj_Inv G' ∧ pj_kpt kc_181 G0 G' ∧ ((0 : Int) ≤ y.toInt ∧ y.toInt ≤ 80) ∧ ((pj_fi G' 171 17).toInt = 0 ∧ (pj_fi G' 171 18).toInt ≤ most.toInt ∧ (pj_fi G' 171 19).toInt = 0)) := by
  have c0_ : (Int32.ofInt 0).toInt = 0 := by decide
  refine pj_Y_X (M := pj_m181) rfl rfl (Nat.le_of_ble_eq_true rfl) ?_
  have hK : pj_kpt kc_181 G0 G0 := pj_kpt_r _ _
  show pj_X _ _ G0 0 [(0, .ref 171), (1, .int most)] [] _
  obtain ⟨y1, hy1⟩ : ∃ z : Int32, z = pj_fi G0 171 17 := ⟨_, rfl⟩
  have ey1 : (pj_fi G0 171 17).toInt = y1.toInt := by rw [hy1]
  have ry1 : (0 : Int) ≤ y1.toInt ∧ y1.toInt ≤ 80 := by rw [hy1]; exact hI.2.1 171 17 (0, 80) rfl
  obtain ⟨y2, hy2⟩ : ∃ z : Int32, z = pj_fi G0 171 18 := ⟨_, rfl⟩
  have ey2 : (pj_fi G0 171 18).toInt = y2.toInt := by rw [hy2]
  have ry2 : (0 : Int) ≤ y2.toInt ∧ y2.toInt ≤ 80 := by rw [hy2]; exact hI.2.1 171 18 (0, 80) rfl
  obtain ⟨y3, hy3⟩ : ∃ z : Int32, z = pj_fi G0 171 19 := ⟨_, rfl⟩
  have ey3 : (pj_fi G0 171 19).toInt = y3.toInt := by rw [hy3]
  have ry3 : (0 : Int) ≤ y3.toInt ∧ y3.toInt ≤ 4 := by rw [hy3]; exact hI.2.1 171 19 (0, 4) rfl
  refine pj_X_of (fun r h => pj_R_to (G0, 1, [(0, .ref 171), (1, .int most)], [.ref 171], 0, 0) 1 2 (fun _ => rfl) h) ?_
  refine pj_X_of (fun r h => pj_T_gi hI rfl rfl h) ?_
  show pj_X _ _ G0 4 [(0, .ref 171), (1, .int most)] [.int (pj_fi G0 171 16)] _
  obtain ⟨y4, hy4⟩ : ∃ z : Int32, z = pj_fi G0 171 16 := ⟨_, rfl⟩
  refine pj_X_eqi hy4.symm ?_
  have ey4 : (pj_fi G0 171 16).toInt = y4.toInt := by rw [hy4]
  have ry4 : (0 : Int) ≤ y4.toInt ∧ y4.toInt ≤ 80 := by rw [hy4]; exact hI.2.1 171 16 (0, 80) rfl
  refine pj_X_of (fun r h => pj_R_to (G0, 7, [(2, .int y4), (0, .ref 171), (1, .int most)], [.int (Int32.ofInt 0), .ref 171], 0, 0) 7 4 (fun _ => rfl) h) ?_
  refine pj_X_of (fun r h => pj_T_pf hI rfl rfl rfl h) ?_
  show pj_X _ _ (pj_wv G0 171 16 (.int (Int32.ofInt 0))) 10 [(2, .int y4), (0, .ref 171), (1, .int most)] [] _
  obtain ⟨G5, hG5⟩ : ∃ H, H = pj_wv G0 171 16 (.int (Int32.ofInt 0)) := ⟨_, rfl⟩
  have iG5 : pj_Inv G5 := by rw [hG5]; exact pj_Inv_wi hI (ci := 12) rfl (fun q hq => by cases hq; exact ⟨by show (0 : Int) ≤ _; omega, by show _ ≤ (80 : Int); omega⟩)
  have kG5 : pj_kpt kc_181 G0 G5 := by rw [hG5]; exact pj_kpt_v hK rfl
  rw [← hG5]
  refine pj_X_of (fun r h => pj_R_to (G5, 12, [(2, .int y4), (0, .ref 171), (1, .int most)], [.int (Int32.ofInt 0), .ref 171], 0, 0) 12 3 (fun _ => rfl) h) ?_
  refine pj_X_of (fun r h => pj_T_pf iG5 rfl rfl rfl h) ?_
  show pj_X _ _ (pj_wv G5 171 17 (.int (Int32.ofInt 0))) 15 [(2, .int y4), (0, .ref 171), (1, .int most)] [] _
  obtain ⟨G6, hG6⟩ : ∃ H, H = pj_wv G5 171 17 (.int (Int32.ofInt 0)) := ⟨_, rfl⟩
  have iG6 : pj_Inv G6 := by rw [hG6]; exact pj_Inv_wi iG5 (ci := 12) rfl (fun q hq => by cases hq; exact ⟨by show (0 : Int) ≤ _; omega, by show _ ≤ (80 : Int); omega⟩)
  have kG6 : pj_kpt kc_181 G0 G6 := by rw [hG6]; exact pj_kpt_v kG5 rfl
  rw [← hG6]
  refine pj_X_of (fun r h => pj_R_to (G6, 17, [(2, .int y4), (0, .ref 171), (1, .int most)], [.int (Int32.ofInt 0), .ref 171], 0, 0) 17 3 (fun _ => rfl) h) ?_
  refine pj_X_of (fun r h => pj_T_pf iG6 rfl rfl rfl h) ?_
  show pj_X _ _ (pj_wv G6 171 19 (.int (Int32.ofInt 0))) 20 [(2, .int y4), (0, .ref 171), (1, .int most)] [] _
  obtain ⟨G7, hG7⟩ : ∃ H, H = pj_wv G6 171 19 (.int (Int32.ofInt 0)) := ⟨_, rfl⟩
  have iG7 : pj_Inv G7 := by rw [hG7]; exact pj_Inv_wi iG6 (ci := 12) rfl (fun q hq => by cases hq; exact ⟨by show (0 : Int) ≤ _; omega, by show _ ≤ (4 : Int); omega⟩)
  have kG7 : pj_kpt kc_181 G0 G7 := by rw [hG7]; exact pj_kpt_v kG6 rfl
  rw [← hG7]
  refine pj_X_of (fun r h => pj_R_to (G7, 23, [(2, .int y4), (0, .ref 171), (1, .int most)], [.int most, .int y4, .ref 171], 0, 0) 23 4 (fun _ => rfl) h) ?_
  refine pj_X_of (fun r h => pj_R_mn (v := (if most < y4 then most else y4)) rfl rfl rfl (Nat.le_of_ble_eq_true rfl) h) ?_
  show pj_X _ _ G7 26 [(2, .int y4), (0, .ref 171), (1, .int most)] [.int (if most < y4 then most else y4), .ref 171] _
  obtain ⟨z8, hz8⟩ : ∃ z : Int32, z = (if most < y4 then most else y4) := ⟨_, rfl⟩
  refine pj_X_eqi hz8.symm ?_
  have fz8_0 : z8.toInt ≤ y4.toInt ∧ z8.toInt ≤ most.toInt ∧ (z8.toInt = y4.toInt ∨ z8.toInt = most.toInt) := by rw [hz8]; exact pj_minI
  refine pj_X_of (fun r h => pj_T_pf iG7 rfl rfl rfl h) ?_
  show pj_X _ _ (pj_wv G7 171 18 (.int z8)) 29 [(2, .int y4), (0, .ref 171), (1, .int most)] [] _
  obtain ⟨G9, hG9⟩ : ∃ H, H = pj_wv G7 171 18 (.int z8) := ⟨_, rfl⟩
  have iG9 : pj_Inv G9 := by rw [hG9]; exact pj_Inv_wi iG7 (ci := 12) rfl (fun q hq => by cases hq; exact ⟨by show (0 : Int) ≤ _; omega, by show _ ≤ (80 : Int); omega⟩)
  have kG9 : pj_kpt kc_181 G0 G9 := by rw [hG9]; exact pj_kpt_v kG7 rfl
  rw [← hG9]
  refine pj_X_of (fun r h => pj_R_to (G9, 30, [(2, .int y4), (0, .ref 171), (1, .int most)], [.int y4], 0, 0) 30 2 (fun _ => rfl) h) ?_
  have q10 : (pj_fi G9 171 17).toInt = (Int32.ofInt 0).toInt := by rw [show pj_fi G9 171 17 = Int32.ofInt 0 from by rw [hG9, pj_fi_wv_ne _ _ _ _ _ _ (by decide)]; exact (by rw [hG7, pj_fi_wv_ne _ _ _ _ _ _ (by decide)]; exact (by rw [hG6]; exact pj_fi_wi iG5.1 (ci := 12) rfl _))]
  have q11 : (pj_fi G9 171 18).toInt = z8.toInt := by rw [show pj_fi G9 171 18 = z8 from by rw [hG9]; exact pj_fi_wi iG7.1 (ci := 12) rfl _]
  have q12 : (pj_fi G9 171 19).toInt = (Int32.ofInt 0).toInt := by rw [show pj_fi G9 171 19 = Int32.ofInt 0 from by rw [hG9, pj_fi_wv_ne _ _ _ _ _ _ (by decide)]; exact (by rw [hG7]; exact pj_fi_wi iG6.1 (ci := 12) rfl _)]
  exact pj_X_rt rfl rfl ⟨_, rfl, iG9, kG9, ⟨by omega, by omega⟩, by omega⟩
def kc_182 : pj_KT := ([(171, 17)], [171], [])
theorem ct_182 (G0 : pj_G) (hI : pj_Inv G0) (sg : Int32) (rsg : (0 : Int) ≤ sg.toInt ∧ sg.toInt ≤ 255) : pj_Y 2 182 [.ref 171, .int sg] G0 (fun v G' => ∃ y : Int32, v = some (.int y) ∧ pj_Inv G' ∧ pj_kpt kc_182 G0 G' ∧ ((0 : Int) ≤ y.toInt ∧ y.toInt ≤ 1) ∧ ((pj_fi G' 171 17).toInt = (pj_fi G0 171 17).toInt + y.toInt ∧ (1 ≤ y.toInt → (pj_fi G0 171 17).toInt < (pj_fi G0 171 18).toInt))) := by
  have c0_ : (Int32.ofInt 0).toInt = 0 := by decide
  have c1_ : (Int32.ofInt 1).toInt = 1 := by decide
  refine pj_Y_X (M := pj_m182) rfl rfl (Nat.le_of_ble_eq_true rfl) ?_
  have hK : pj_kpt kc_182 G0 G0 := pj_kpt_r _ _
  show pj_X _ _ G0 0 [(0, .ref 171), (1, .int sg)] [] _
  obtain ⟨y1, hy1⟩ : ∃ z : Int32, z = pj_fi G0 171 17 := ⟨_, rfl⟩
  have ey1 : (pj_fi G0 171 17).toInt = y1.toInt := by rw [hy1]
  have ry1 : (0 : Int) ≤ y1.toInt ∧ y1.toInt ≤ 80 := by rw [hy1]; exact hI.2.1 171 17 (0, 80) rfl
  obtain ⟨y2, hy2⟩ : ∃ z : Int32, z = pj_fi G0 171 18 := ⟨_, rfl⟩
  have ey2 : (pj_fi G0 171 18).toInt = y2.toInt := by rw [hy2]
  have ry2 : (0 : Int) ≤ y2.toInt ∧ y2.toInt ≤ 80 := by rw [hy2]; exact hI.2.1 171 18 (0, 80) rfl
  refine pj_X_of (fun r h => pj_R_to (G0, 1, [(0, .ref 171), (1, .int sg)], [.ref 171], 0, 0) 1 2 (fun _ => rfl) h) ?_
  refine pj_X_of (fun r h => pj_T_gi hI rfl rfl h) ?_
  show pj_X _ _ G0 4 [(0, .ref 171), (1, .int sg)] [.int (pj_fi G0 171 17)] _
  refine pj_X_eqi (show pj_fi G0 171 17 = y1 from hy1.symm) ?_
  refine pj_X_of (fun r h => pj_R_to (G0, 5, [(0, .ref 171), (1, .int sg)], [.ref 171, .int y1], 0, 0) 5 2 (fun _ => rfl) h) ?_
  refine pj_X_of (fun r h => pj_T_gi hI rfl rfl h) ?_
  show pj_X _ _ G0 8 [(0, .ref 171), (1, .int sg)] [.int (pj_fi G0 171 18), .int y1] _
  refine pj_X_eqi (show pj_fi G0 171 18 = y2 from hy2.symm) ?_
  cases b3 : pj_c1 .ge y1 y2 with
  | true =>
    have ub3 := pj_u_geT b3
    refine pj_X_of (fun r h => pj_R_icT 28 rfl rfl b3 h) ?_
    refine pj_X_of (fun r h => pj_R_to (G0, 32, [(2, .int (Int32.ofInt 0)), (0, .ref 171), (1, .int sg)], [.ref 171, .ref 171], 0, 0) 32 5 (fun _ => rfl) h) ?_
    refine pj_X_of (fun r h => pj_T_gi hI rfl rfl h) ?_
    show pj_X _ _ G0 35 [(2, .int (Int32.ofInt 0)), (0, .ref 171), (1, .int sg)] [.int (pj_fi G0 171 17), .ref 171] _
    refine pj_X_eqi (show pj_fi G0 171 17 = y1 from hy1.symm) ?_
    refine pj_X_of (fun r h => pj_R_to (G0, 36, [(2, .int (Int32.ofInt 0)), (0, .ref 171), (1, .int sg)], [.int (Int32.ofInt 0), .int y1, .ref 171], 0, 0) 36 2 (fun _ => rfl) h) ?_
    have q4 : (pj_fi G0 171 17).toInt = y1.toInt := by rw [show pj_fi G0 171 17 = y1 from hy1.symm]
    have q5 : (pj_fi G0 171 18).toInt = y2.toInt := by rw [show pj_fi G0 171 18 = y2 from hy2.symm]
    refine pj_X_ca (vs := [.int (Int32.ofInt 0)]) rfl (fun _ => rfl) ⟨Nat.le_of_ble_eq_true rfl, Nat.le_of_ble_eq_true rfl, rfl⟩ ⟨rfl, rfl⟩ (pj_Y_up (by decide) (ct_172x G0 hI (Int32.ofInt 0) ⟨by omega, by omega⟩)) ?_
    rintro _ _ ⟨y6, rfl, rfl, ry6, ey6, fy6⟩
    show pj_X _ _ G0 39 [(2, .int (Int32.ofInt 0)), (0, .ref 171), (1, .int sg)] [.int y6, .int y1, .ref 171] _
    refine pj_X_of (fun r h => pj_R_to (G0, 40, [(2, .int (Int32.ofInt 0)), (0, .ref 171), (1, .int sg)], [.int (y1 + y6), .ref 171], 0, 0) 40 2 (fun _ => rfl) h) ?_
    obtain ⟨z7, hz7⟩ : ∃ z : Int32, z = y1 + y6 := ⟨_, rfl⟩
    refine pj_X_eqi hz7.symm ?_
    have fz7_0 : z7.toInt = y1.toInt + y6.toInt := by rw [hz7]; exact pj_addI (by have := pj_i32 y1; have := pj_i32 y6; omega) (by have := pj_i32 y1; have := pj_i32 y6; omega)
    refine pj_X_of (fun r h => pj_T_pf hI rfl rfl rfl h) ?_
    show pj_X _ _ (pj_wv G0 171 17 (.int z7)) 43 [(2, .int (Int32.ofInt 0)), (0, .ref 171), (1, .int sg)] [] _
    obtain ⟨G8, hG8⟩ : ∃ H, H = pj_wv G0 171 17 (.int z7) := ⟨_, rfl⟩
    have iG8 : pj_Inv G8 := by rw [hG8]; exact pj_Inv_wi hI (ci := 12) rfl (fun q hq => by cases hq; exact ⟨by show (0 : Int) ≤ _; omega, by show _ ≤ (80 : Int); omega⟩)
    have kG8 : pj_kpt kc_182 G0 G8 := by rw [hG8]; exact pj_kpt_v hK rfl
    rw [← hG8]
    refine pj_X_of (fun r h => pj_R_to (G8, 44, [(2, .int (Int32.ofInt 0)), (0, .ref 171), (1, .int sg)], [.int (Int32.ofInt 0)], 0, 0) 44 2 (fun _ => rfl) h) ?_
    have q9 : (pj_fi G8 171 17).toInt = z7.toInt := by rw [show pj_fi G8 171 17 = z7 from by rw [hG8]; exact pj_fi_wi hI.1 (ci := 12) rfl _]
    have q10 : (pj_fi G8 171 18).toInt = y2.toInt := by rw [show pj_fi G8 171 18 = y2 from by rw [hG8, pj_fi_wv_ne _ _ _ _ _ _ (by decide)]; exact hy2.symm]
    exact pj_X_rt rfl rfl ⟨_, rfl, iG8, kG8, ⟨by omega, by omega⟩, by omega⟩
  | false =>
    have ub3 := pj_u_geF b3
    refine pj_X_of (fun r h => pj_R_icF rfl b3 h) ?_
    refine pj_X_of (fun r h => pj_R_to (G0, 12, [(0, .ref 171), (1, .int sg)], [.ref 171], 0, 0) 12 2 (fun _ => rfl) h) ?_
    refine pj_X_of (fun r h => pj_T_gr hI rfl rfl rfl h) ?_
    refine pj_X_of (fun r h => pj_R_to (G0, 16, [(0, .ref 171), (1, .int sg)], [.ref 171, .ref 180], 0, 0) 16 2 (fun _ => rfl) h) ?_
    refine pj_X_of (fun r h => pj_T_gi hI rfl rfl h) ?_
    show pj_X _ _ G0 19 [(0, .ref 171), (1, .int sg)] [.int (pj_fi G0 171 17), .ref 180] _
    refine pj_X_eqi (show pj_fi G0 171 17 = y1 from hy1.symm) ?_
    refine pj_X_of (fun r h => pj_T_il hI rfl rfl (by omega) (by omega) h) ?_
    show pj_X _ _ G0 20 [(0, .ref 171), (1, .int sg)] [.int (pj_ai G0 180 y1.toInt.toNat)] _
    obtain ⟨z11, hz11⟩ : ∃ z : Int32, z = pj_ai G0 180 y1.toInt.toNat := ⟨_, rfl⟩
    refine pj_X_eqi hz11.symm ?_
    have ez11 : (pj_ai G0 180 y1.toInt.toNat).toInt = z11.toInt := by rw [hz11]
    have fz11_0 : (0 : Int) ≤ z11.toInt ∧ z11.toInt ≤ 255 ∧ (z11.toInt ≤ 0 ∨ 0 ≤ z11.toInt) := by rw [hz11]; exact hI.2.2.1 180 (80, 0, 255, 0, 0) rfl _ (by show _ < 80; omega)
    refine pj_X_of (fun r h => pj_R_to (G0, 21, [(0, .ref 171), (1, .int sg)], [.int sg, .int z11], 0, 0) 21 2 (fun _ => rfl) h) ?_
    cases b12 : pj_c1 .ne z11 sg with
    | true =>
      have ub12 := pj_u_neT b12
      refine pj_X_of (fun r h => pj_R_icT 28 rfl rfl b12 h) ?_
      refine pj_X_of (fun r h => pj_R_to (G0, 32, [(2, .int (Int32.ofInt 0)), (0, .ref 171), (1, .int sg)], [.ref 171, .ref 171], 0, 0) 32 5 (fun _ => rfl) h) ?_
      refine pj_X_of (fun r h => pj_T_gi hI rfl rfl h) ?_
      show pj_X _ _ G0 35 [(2, .int (Int32.ofInt 0)), (0, .ref 171), (1, .int sg)] [.int (pj_fi G0 171 17), .ref 171] _
      refine pj_X_eqi (show pj_fi G0 171 17 = y1 from hy1.symm) ?_
      refine pj_X_of (fun r h => pj_R_to (G0, 36, [(2, .int (Int32.ofInt 0)), (0, .ref 171), (1, .int sg)], [.int (Int32.ofInt 0), .int y1, .ref 171], 0, 0) 36 2 (fun _ => rfl) h) ?_
      have q13 : (pj_fi G0 171 17).toInt = y1.toInt := by rw [show pj_fi G0 171 17 = y1 from hy1.symm]
      have q14 : (pj_fi G0 171 18).toInt = y2.toInt := by rw [show pj_fi G0 171 18 = y2 from hy2.symm]
      refine pj_X_ca (vs := [.int (Int32.ofInt 0)]) rfl (fun _ => rfl) ⟨Nat.le_of_ble_eq_true rfl, Nat.le_of_ble_eq_true rfl, rfl⟩ ⟨rfl, rfl⟩ (pj_Y_up (by decide) (ct_172x G0 hI (Int32.ofInt 0) ⟨by omega, by omega⟩)) ?_
      rintro _ _ ⟨y15, rfl, rfl, ry15, ey15, fy15⟩
      show pj_X _ _ G0 39 [(2, .int (Int32.ofInt 0)), (0, .ref 171), (1, .int sg)] [.int y15, .int y1, .ref 171] _
      refine pj_X_of (fun r h => pj_R_to (G0, 40, [(2, .int (Int32.ofInt 0)), (0, .ref 171), (1, .int sg)], [.int (y1 + y15), .ref 171], 0, 0) 40 2 (fun _ => rfl) h) ?_
      obtain ⟨z16, hz16⟩ : ∃ z : Int32, z = y1 + y15 := ⟨_, rfl⟩
      refine pj_X_eqi hz16.symm ?_
      have fz16_0 : z16.toInt = y1.toInt + y15.toInt := by rw [hz16]; exact pj_addI (by have := pj_i32 y1; have := pj_i32 y15; omega) (by have := pj_i32 y1; have := pj_i32 y15; omega)
      refine pj_X_of (fun r h => pj_T_pf hI rfl rfl rfl h) ?_
      show pj_X _ _ (pj_wv G0 171 17 (.int z16)) 43 [(2, .int (Int32.ofInt 0)), (0, .ref 171), (1, .int sg)] [] _
      obtain ⟨G17, hG17⟩ : ∃ H, H = pj_wv G0 171 17 (.int z16) := ⟨_, rfl⟩
      have iG17 : pj_Inv G17 := by rw [hG17]; exact pj_Inv_wi hI (ci := 12) rfl (fun q hq => by cases hq; exact ⟨by show (0 : Int) ≤ _; omega, by show _ ≤ (80 : Int); omega⟩)
      have kG17 : pj_kpt kc_182 G0 G17 := by rw [hG17]; exact pj_kpt_v hK rfl
      rw [← hG17]
      refine pj_X_of (fun r h => pj_R_to (G17, 44, [(2, .int (Int32.ofInt 0)), (0, .ref 171), (1, .int sg)], [.int (Int32.ofInt 0)], 0, 0) 44 2 (fun _ => rfl) h) ?_
      have q18 : (pj_fi G17 171 17).toInt = z16.toInt := by rw [show pj_fi G17 171 17 = z16 from by rw [hG17]; exact pj_fi_wi hI.1 (ci := 12) rfl _]
      have q19 : (pj_fi G17 171 18).toInt = y2.toInt := by rw [show pj_fi G17 171 18 = y2 from by rw [hG17, pj_fi_wv_ne _ _ _ _ _ _ (by decide)]; exact hy2.symm]
      exact pj_X_rt rfl rfl ⟨_, rfl, iG17, kG17, ⟨by omega, by omega⟩, by omega⟩
    | false =>
      have ub12 := pj_u_neF b12
      refine pj_X_of (fun r h => pj_R_icF rfl b12 h) ?_
      refine pj_X_of (fun r h => pj_R_to (G0, 32, [(2, .int (Int32.ofInt 1)), (0, .ref 171), (1, .int sg)], [.ref 171, .ref 171], 0, 0) 32 6 (fun _ => rfl) h) ?_
      refine pj_X_of (fun r h => pj_T_gi hI rfl rfl h) ?_
      show pj_X _ _ G0 35 [(2, .int (Int32.ofInt 1)), (0, .ref 171), (1, .int sg)] [.int (pj_fi G0 171 17), .ref 171] _
      refine pj_X_eqi (show pj_fi G0 171 17 = y1 from hy1.symm) ?_
      refine pj_X_of (fun r h => pj_R_to (G0, 36, [(2, .int (Int32.ofInt 1)), (0, .ref 171), (1, .int sg)], [.int (Int32.ofInt 1), .int y1, .ref 171], 0, 0) 36 2 (fun _ => rfl) h) ?_
      have q20 : (pj_fi G0 171 17).toInt = y1.toInt := by rw [show pj_fi G0 171 17 = y1 from hy1.symm]
      have q21 : (pj_fi G0 171 18).toInt = y2.toInt := by rw [show pj_fi G0 171 18 = y2 from hy2.symm]
      refine pj_X_ca (vs := [.int (Int32.ofInt 1)]) rfl (fun _ => rfl) ⟨Nat.le_of_ble_eq_true rfl, Nat.le_of_ble_eq_true rfl, rfl⟩ ⟨rfl, rfl⟩ (pj_Y_up (by decide) (ct_172x G0 hI (Int32.ofInt 1) ⟨by omega, by omega⟩)) ?_
      rintro _ _ ⟨y22, rfl, rfl, ry22, ey22, fy22⟩
      show pj_X _ _ G0 39 [(2, .int (Int32.ofInt 1)), (0, .ref 171), (1, .int sg)] [.int y22, .int y1, .ref 171] _
      refine pj_X_of (fun r h => pj_R_to (G0, 40, [(2, .int (Int32.ofInt 1)), (0, .ref 171), (1, .int sg)], [.int (y1 + y22), .ref 171], 0, 0) 40 2 (fun _ => rfl) h) ?_
      obtain ⟨z23, hz23⟩ : ∃ z : Int32, z = y1 + y22 := ⟨_, rfl⟩
      refine pj_X_eqi hz23.symm ?_
      have fz23_0 : z23.toInt = y1.toInt + y22.toInt := by rw [hz23]; exact pj_addI (by have := pj_i32 y1; have := pj_i32 y22; omega) (by have := pj_i32 y1; have := pj_i32 y22; omega)
      refine pj_X_of (fun r h => pj_T_pf hI rfl rfl rfl h) ?_
      show pj_X _ _ (pj_wv G0 171 17 (.int z23)) 43 [(2, .int (Int32.ofInt 1)), (0, .ref 171), (1, .int sg)] [] _
      obtain ⟨G24, hG24⟩ : ∃ H, H = pj_wv G0 171 17 (.int z23) := ⟨_, rfl⟩
      have iG24 : pj_Inv G24 := by rw [hG24]; exact pj_Inv_wi hI (ci := 12) rfl (fun q hq => by cases hq; exact ⟨by show (0 : Int) ≤ _; omega, by show _ ≤ (80 : Int); omega⟩)
      have kG24 : pj_kpt kc_182 G0 G24 := by rw [hG24]; exact pj_kpt_v hK rfl
      rw [← hG24]
      refine pj_X_of (fun r h => pj_R_to (G24, 44, [(2, .int (Int32.ofInt 1)), (0, .ref 171), (1, .int sg)], [.int (Int32.ofInt 1)], 0, 0) 44 2 (fun _ => rfl) h) ?_
      have q25 : (pj_fi G24 171 17).toInt = z23.toInt := by rw [show pj_fi G24 171 17 = z23 from by rw [hG24]; exact pj_fi_wi hI.1 (ci := 12) rfl _]
      have q26 : (pj_fi G24 171 18).toInt = y2.toInt := by rw [show pj_fi G24 171 18 = y2 from by rw [hG24, pj_fi_wv_ne _ _ _ _ _ _ (by decide)]; exact hy2.symm]
      exact pj_X_rt rfl rfl ⟨_, rfl, iG24, kG24, ⟨by omega, by omega⟩, by omega⟩
theorem ct_183 (G0 : pj_G) (hI : pj_Inv G0) : pj_Y 2 183 [.ref 171] G0 (fun v G' => ∃ y : Int32, v = some (.int y) ∧ G0 = G' ∧ ((0 : Int) ≤ y.toInt ∧ y.toInt ≤ 1) ∧ ((1 ≤ y.toInt → (pj_fi G0 171 17).toInt < (pj_fi G0 171 18).toInt ∧ 48 ≤ (pj_ai G0 180 (pj_fi G0 171 17).toInt.toNat).toInt ∧ (pj_ai G0 180 (pj_fi G0 171 17).toInt.toNat).toInt ≤ 57) ∧ (y.toInt = 0 → (pj_fi G0 171 18).toInt ≤ (pj_fi G0 171 17).toInt ∨ (pj_ai G0 180 (pj_fi G0 171 17).toInt.toNat).toInt < 48 ∨ 57 < (pj_ai G0 180 (pj_fi G0 171 17).toInt.toNat).toInt))) := by
  have c0_ : (Int32.ofInt 0).toInt = 0 := by decide
  have c1_ : (Int32.ofInt 1).toInt = 1 := by decide
  refine pj_Y_X (M := pj_m183) rfl rfl (Nat.le_of_ble_eq_true rfl) ?_
  have hK : pj_kpt ([], [], []) G0 G0 := pj_kpt_r _ _
  show pj_X _ _ G0 0 [(0, .ref 171)] [] _
  obtain ⟨y1, hy1⟩ : ∃ z : Int32, z = pj_fi G0 171 17 := ⟨_, rfl⟩
  have ey1 : (pj_fi G0 171 17).toInt = y1.toInt := by rw [hy1]
  have ry1 : (0 : Int) ≤ y1.toInt ∧ y1.toInt ≤ 80 := by rw [hy1]; exact hI.2.1 171 17 (0, 80) rfl
  obtain ⟨y2, hy2⟩ : ∃ z : Int32, z = pj_fi G0 171 18 := ⟨_, rfl⟩
  have ey2 : (pj_fi G0 171 18).toInt = y2.toInt := by rw [hy2]
  have ry2 : (0 : Int) ≤ y2.toInt ∧ y2.toInt ≤ 80 := by rw [hy2]; exact hI.2.1 171 18 (0, 80) rfl
  refine pj_X_of (fun r h => pj_R_to (G0, 1, [(0, .ref 171)], [.ref 171], 0, 0) 1 2 (fun _ => rfl) h) ?_
  refine pj_X_of (fun r h => pj_T_gi hI rfl rfl h) ?_
  show pj_X _ _ G0 4 [(0, .ref 171)] [.int (pj_fi G0 171 17)] _
  refine pj_X_eqi (show pj_fi G0 171 17 = y1 from hy1.symm) ?_
  refine pj_X_of (fun r h => pj_R_to (G0, 5, [(0, .ref 171)], [.ref 171, .int y1], 0, 0) 5 2 (fun _ => rfl) h) ?_
  refine pj_X_of (fun r h => pj_T_gi hI rfl rfl h) ?_
  show pj_X _ _ G0 8 [(0, .ref 171)] [.int (pj_fi G0 171 18), .int y1] _
  refine pj_X_eqi (show pj_fi G0 171 18 = y2 from hy2.symm) ?_
  cases b3 : pj_c1 .ge y1 y2 with
  | true =>
    have ub3 := pj_u_geT b3
    refine pj_X_of (fun r h => pj_R_icT 37 rfl rfl b3 h) ?_
    refine pj_X_of (fun r h => pj_R_to (G0, 38, [(0, .ref 171)], [.int (Int32.ofInt 0)], 0, 0) 38 2 (fun _ => rfl) h) ?_
    have q4 : (pj_fi G0 171 17).toInt = y1.toInt := by rw [show pj_fi G0 171 17 = y1 from hy1.symm]
    have q5 : (pj_fi G0 171 18).toInt = y2.toInt := by rw [show pj_fi G0 171 18 = y2 from hy2.symm]
    exact pj_X_rt rfl rfl ⟨_, rfl, rfl, ⟨by omega, by omega⟩, by omega⟩
  | false =>
    have ub3 := pj_u_geF b3
    refine pj_X_of (fun r h => pj_R_icF rfl b3 h) ?_
    refine pj_X_of (fun r h => pj_R_to (G0, 12, [(0, .ref 171)], [.ref 171], 0, 0) 12 2 (fun _ => rfl) h) ?_
    refine pj_X_of (fun r h => pj_T_gr hI rfl rfl rfl h) ?_
    refine pj_X_of (fun r h => pj_R_to (G0, 16, [(0, .ref 171)], [.ref 171, .ref 180], 0, 0) 16 2 (fun _ => rfl) h) ?_
    refine pj_X_of (fun r h => pj_T_gi hI rfl rfl h) ?_
    show pj_X _ _ G0 19 [(0, .ref 171)] [.int (pj_fi G0 171 17), .ref 180] _
    refine pj_X_eqi (show pj_fi G0 171 17 = y1 from hy1.symm) ?_
    refine pj_X_of (fun r h => pj_T_il hI rfl rfl (by omega) (by omega) h) ?_
    show pj_X _ _ G0 20 [(0, .ref 171)] [.int (pj_ai G0 180 y1.toInt.toNat)] _
    obtain ⟨z6, hz6⟩ : ∃ z : Int32, z = pj_ai G0 180 y1.toInt.toNat := ⟨_, rfl⟩
    refine pj_X_eqi hz6.symm ?_
    have ez6 : (pj_ai G0 180 y1.toInt.toNat).toInt = z6.toInt := by rw [hz6]
    have fz6_0 : (0 : Int) ≤ z6.toInt ∧ z6.toInt ≤ 255 ∧ (z6.toInt ≤ 0 ∨ 0 ≤ z6.toInt) := by rw [hz6]; exact hI.2.2.1 180 (80, 0, 255, 0, 0) rfl _ (by show _ < 80; omega)
    have gz6 : (pj_ai G0 180 (pj_fi G0 171 17).toInt.toNat).toInt = z6.toInt := by rw [show pj_fi G0 171 17 = y1 from hy1.symm, hz6]
    refine pj_X_of (fun r h => pj_R_to (G0, 27, [(0, .ref 171)], [.long (Int64.ofInt 57), .long (Int64.ofInt 48), .long z6.toInt64], 0, 0) 27 4 (fun _ => rfl) h) ?_
    have q7 : (pj_fi G0 171 17).toInt = y1.toInt := by rw [show pj_fi G0 171 17 = y1 from hy1.symm]
    have q8 : (pj_fi G0 171 18).toInt = y2.toInt := by rw [show pj_fi G0 171 18 = y2 from hy2.symm]
    have lc9 : (z6.toInt64).toInt = z6.toInt := Int32.toInt_toInt64 _
    have lc10 : (Int64.ofInt 48).toInt = 48 := by decide
    have lc11 : (Int64.ofInt 57).toInt = 57 := by decide
    refine pj_X_ca (vs := [.long z6.toInt64, .long (Int64.ofInt 48), .long (Int64.ofInt 57)]) rfl (fun _ => rfl) ⟨Nat.le_of_ble_eq_true rfl, Nat.le_of_ble_eq_true rfl, rfl⟩ ⟨rfl, rfl⟩ (pj_Y_up (by decide) (ct_170x G0 hI z6.toInt64 (Int64.ofInt 48) (Int64.ofInt 57))) ?_
    rintro _ _ ⟨y12, rfl, rfl, ry12, ey12, fy12⟩
    show pj_X _ _ G0 30 [(0, .ref 171)] [.int y12] _
    cases b13 : pj_c1 .eq y12 0 with
    | true =>
      have ub13 := pj_u0_eqT b13
      refine pj_X_of (fun r h => pj_R_ifT 37 rfl rfl b13 h) ?_
      refine pj_X_of (fun r h => pj_R_to (G0, 38, [(0, .ref 171)], [.int (Int32.ofInt 0)], 0, 0) 38 2 (fun _ => rfl) h) ?_
      have q14 : (pj_fi G0 171 17).toInt = y1.toInt := by rw [show pj_fi G0 171 17 = y1 from hy1.symm]
      have q15 : (pj_fi G0 171 18).toInt = y2.toInt := by rw [show pj_fi G0 171 18 = y2 from hy2.symm]
      exact pj_X_rt rfl rfl ⟨_, rfl, rfl, ⟨by omega, by omega⟩, by omega⟩
    | false =>
      have ub13 := pj_u0_eqF b13
      refine pj_X_of (fun r h => pj_R_ifF rfl b13 h) ?_
      refine pj_X_of (fun r h => pj_R_to (G0, 38, [(0, .ref 171)], [.int (Int32.ofInt 1)], 0, 0) 38 3 (fun _ => rfl) h) ?_
      have q16 : (pj_fi G0 171 17).toInt = y1.toInt := by rw [show pj_fi G0 171 17 = y1 from hy1.symm]
      have q17 : (pj_fi G0 171 18).toInt = y2.toInt := by rw [show pj_fi G0 171 18 = y2 from hy2.symm]
      exact pj_X_rt rfl rfl ⟨_, rfl, rfl, ⟨by omega, by omega⟩, by omega⟩
theorem lp_ct_184_s9 (G0 : pj_G) (hI : pj_Inv G0) : ∀ mn : Nat, (∀ (v2 : Int32), ((0 : Int) ≤ v2.toInt ∧ v2.toInt ≤ 9) → 9 - v2.toInt < (mn : Int) → pj_X 14 pj_m184 G0 2 [(0, .ref 171), (1, .retAddr 9), (2, .int v2)] [] (fun v G' => ∃ y : Int32, v = some (.int y) ∧ G0 = G' ∧ ((-1 : Int) ≤ y.toInt ∧ y.toInt ≤ 8) ∧ (0 ≤ y.toInt → (pj_fi G0 171 17).toInt < (pj_fi G0 171 18).toInt))) := by
  have c0_ : (Int32.ofInt (-1)).toInt = -1 := by decide
  have c1_ : (Int32.ofInt 0).toInt = 0 := by decide
  have c2_ : (Int32.ofInt 1).toInt = 1 := by decide
  have hK : pj_kpt ([], [], []) G0 G0 := pj_kpt_r _ _
  intro mn
  induction mn with
  | zero =>
    intro v2 rv2 hm
    exfalso
    omega
  | succ mn ih =>
    intro v2 rv2 hm
    obtain ⟨y1, hy1⟩ : ∃ z : Int32, z = pj_fi G0 171 17 := ⟨_, rfl⟩
    have ey1 : (pj_fi G0 171 17).toInt = y1.toInt := by rw [hy1]
    have ry1 : (0 : Int) ≤ y1.toInt ∧ y1.toInt ≤ 80 := by rw [hy1]; exact hI.2.1 171 17 (0, 80) rfl
    obtain ⟨y2, hy2⟩ : ∃ z : Int32, z = pj_fi G0 171 18 := ⟨_, rfl⟩
    have ey2 : (pj_fi G0 171 18).toInt = y2.toInt := by rw [hy2]
    have ry2 : (0 : Int) ≤ y2.toInt ∧ y2.toInt ≤ 80 := by rw [hy2]; exact hI.2.1 171 18 (0, 80) rfl
    refine pj_X_of (fun r h => pj_R_to (G0, 4, [(0, .ref 171), (1, .retAddr 9), (2, .int v2)], [.retAddr 9, .int v2], 0, 0) 4 3 (fun _ => rfl) h) ?_
    have q3 : (pj_fi G0 171 17).toInt = y1.toInt := by rw [show pj_fi G0 171 17 = y1 from hy1.symm]
    have q4 : (pj_fi G0 171 18).toInt = y2.toInt := by rw [show pj_fi G0 171 18 = y2 from hy2.symm]
    refine pj_X_ca (vs := [.retAddr 9]) rfl (fun _ => rfl) ⟨Nat.le_of_ble_eq_true rfl, Nat.le_of_ble_eq_true rfl, rfl⟩ ⟨rfl, rfl⟩ (pj_Y_up (by decide) (ct_288_s9 G0 hI)) ?_
    rintro _ _ ⟨y5, rfl, rfl, ry5⟩
    show pj_X _ _ G0 7 [(0, .ref 171), (1, .retAddr 9), (2, .int v2)] [.int y5, .int v2] _
    cases b6 : pj_c1 .ge v2 y5 with
    | true =>
      have ub6 := pj_u_geT b6
      refine pj_X_of (fun r h => pj_R_icT 46 rfl rfl b6 h) ?_
      refine pj_X_of (fun r h => pj_R_to (G0, 47, [(0, .ref 171), (1, .retAddr 9), (2, .int v2)], [.int (Int32.ofInt (-1))], 0, 0) 47 2 (fun _ => rfl) h) ?_
      have q7 : (pj_fi G0 171 17).toInt = y1.toInt := by rw [show pj_fi G0 171 17 = y1 from hy1.symm]
      have q8 : (pj_fi G0 171 18).toInt = y2.toInt := by rw [show pj_fi G0 171 18 = y2 from hy2.symm]
      exact pj_X_rt rfl rfl ⟨_, rfl, rfl, ⟨by omega, by omega⟩, by omega⟩
    | false =>
      have ub6 := pj_u_geF b6
      refine pj_X_of (fun r h => pj_R_icF rfl b6 h) ?_
      refine pj_X_of (fun r h => pj_R_to (G0, 11, [(0, .ref 171), (1, .retAddr 9), (2, .int v2)], [.ref 171], 0, 0) 11 2 (fun _ => rfl) h) ?_
      refine pj_X_of (fun r h => pj_T_gi hI rfl rfl h) ?_
      show pj_X _ _ G0 14 [(0, .ref 171), (1, .retAddr 9), (2, .int v2)] [.int (pj_fi G0 171 17)] _
      refine pj_X_eqi (show pj_fi G0 171 17 = y1 from hy1.symm) ?_
      refine pj_X_of (fun r h => pj_R_to (G0, 15, [(0, .ref 171), (1, .retAddr 9), (2, .int v2)], [.ref 171, .int y1], 0, 0) 15 2 (fun _ => rfl) h) ?_
      refine pj_X_of (fun r h => pj_T_gi hI rfl rfl h) ?_
      show pj_X _ _ G0 18 [(0, .ref 171), (1, .retAddr 9), (2, .int v2)] [.int (pj_fi G0 171 18), .int y1] _
      refine pj_X_eqi (show pj_fi G0 171 18 = y2 from hy2.symm) ?_
      cases b9 : pj_c1 .ge y1 y2 with
      | true =>
        have ub9 := pj_u_geT b9
        refine pj_X_of (fun r h => pj_R_icT 46 rfl rfl b9 h) ?_
        refine pj_X_of (fun r h => pj_R_to (G0, 47, [(0, .ref 171), (1, .retAddr 9), (2, .int v2)], [.int (Int32.ofInt (-1))], 0, 0) 47 2 (fun _ => rfl) h) ?_
        have q10 : (pj_fi G0 171 17).toInt = y1.toInt := by rw [show pj_fi G0 171 17 = y1 from hy1.symm]
        have q11 : (pj_fi G0 171 18).toInt = y2.toInt := by rw [show pj_fi G0 171 18 = y2 from hy2.symm]
        exact pj_X_rt rfl rfl ⟨_, rfl, rfl, ⟨by omega, by omega⟩, by omega⟩
      | false =>
        have ub9 := pj_u_geF b9
        refine pj_X_of (fun r h => pj_R_icF rfl b9 h) ?_
        refine pj_X_of (fun r h => pj_R_to (G0, 23, [(0, .ref 171), (1, .retAddr 9), (2, .int v2)], [.int v2, .retAddr 9], 0, 0) 23 3 (fun _ => rfl) h) ?_
        have q12 : (pj_fi G0 171 17).toInt = y1.toInt := by rw [show pj_fi G0 171 17 = y1 from hy1.symm]
        have q13 : (pj_fi G0 171 18).toInt = y2.toInt := by rw [show pj_fi G0 171 18 = y2 from hy2.symm]
        refine pj_X_ca (vs := [.retAddr 9, .int v2]) rfl (fun _ => rfl) ⟨Nat.le_of_ble_eq_true rfl, Nat.le_of_ble_eq_true rfl, rfl⟩ ⟨rfl, rfl⟩ (pj_Y_up (by decide) (ct_289_s9 G0 hI v2 ⟨by omega, by omega⟩)) ?_
        rintro _ _ ⟨y14, rfl, rfl, ry14⟩
        show pj_X _ _ G0 26 [(0, .ref 171), (1, .retAddr 9), (2, .int v2)] [.int y14] _
        refine pj_X_of (fun r h => pj_R_to (G0, 27, [(0, .ref 171), (1, .retAddr 9), (2, .int v2)], [.ref 171, .int y14], 0, 0) 27 2 (fun _ => rfl) h) ?_
        refine pj_X_of (fun r h => pj_T_gr hI rfl rfl rfl h) ?_
        refine pj_X_of (fun r h => pj_R_to (G0, 31, [(0, .ref 171), (1, .retAddr 9), (2, .int v2)], [.ref 171, .ref 180, .int y14], 0, 0) 31 2 (fun _ => rfl) h) ?_
        refine pj_X_of (fun r h => pj_T_gi hI rfl rfl h) ?_
        show pj_X _ _ G0 34 [(0, .ref 171), (1, .retAddr 9), (2, .int v2)] [.int (pj_fi G0 171 17), .ref 180, .int y14] _
        refine pj_X_eqi (show pj_fi G0 171 17 = y1 from hy1.symm) ?_
        refine pj_X_of (fun r h => pj_T_il hI rfl rfl (by omega) (by omega) h) ?_
        show pj_X _ _ G0 35 [(0, .ref 171), (1, .retAddr 9), (2, .int v2)] [.int (pj_ai G0 180 y1.toInt.toNat), .int y14] _
        obtain ⟨z15, hz15⟩ : ∃ z : Int32, z = pj_ai G0 180 y1.toInt.toNat := ⟨_, rfl⟩
        refine pj_X_eqi hz15.symm ?_
        have ez15 : (pj_ai G0 180 y1.toInt.toNat).toInt = z15.toInt := by rw [hz15]
        have fz15_0 : (0 : Int) ≤ z15.toInt ∧ z15.toInt ≤ 255 ∧ (z15.toInt ≤ 0 ∨ 0 ≤ z15.toInt) := by rw [hz15]; exact hI.2.2.1 180 (80, 0, 255, 0, 0) rfl _ (by show _ < 80; omega)
        cases b16 : pj_c1 .ne y14 z15 with
        | true =>
          have ub16 := pj_u_neT b16
          refine pj_X_of (fun r h => pj_R_icT 40 rfl rfl b16 h) ?_
          refine pj_X_of (fun r h => pj_R_to (G0, 43, [(2, .int (v2 + Int32.ofInt 1)), (0, .ref 171), (1, .retAddr 9)], [], 0, 0) 43 2 (fun _ => rfl) h) ?_
          obtain ⟨z17, hz17⟩ : ∃ z : Int32, z = v2 + Int32.ofInt 1 := ⟨_, rfl⟩
          rw [← hz17]
          have fz17_0 : z17.toInt = v2.toInt + (Int32.ofInt 1).toInt := by rw [hz17]; exact pj_addI (by have := pj_i32 v2; have := pj_i32 (Int32.ofInt 1); omega) (by have := pj_i32 v2; have := pj_i32 (Int32.ofInt 1); omega)
          refine pj_X_of (fun r h => pj_R_to (G0, 2, [(2, .int z17), (0, .ref 171), (1, .retAddr 9)], [], 0, 0) 2 2 (fun _ => rfl) h) ?_
          have q18 : (pj_fi G0 171 17).toInt = y1.toInt := by rw [show pj_fi G0 171 17 = y1 from hy1.symm]
          have q19 : (pj_fi G0 171 18).toInt = y2.toInt := by rw [show pj_fi G0 171 18 = y2 from hy2.symm]
          exact pj_X_sub [(0, .ref 171), (1, .retAddr 9), (2, .int z17)] (show List.Nodup [0, 1, 2] by decide) ⟨rfl, rfl, rfl, trivial⟩ (ih z17 ⟨by omega, by omega⟩ (by omega))
        | false =>
          have ub16 := pj_u_neF b16
          refine pj_X_of (fun r h => pj_R_icF rfl b16 h) ?_
          refine pj_X_of (fun r h => pj_R_to (G0, 39, [(0, .ref 171), (1, .retAddr 9), (2, .int v2)], [.int v2], 0, 0) 39 2 (fun _ => rfl) h) ?_
          have q20 : (pj_fi G0 171 17).toInt = y1.toInt := by rw [show pj_fi G0 171 17 = y1 from hy1.symm]
          have q21 : (pj_fi G0 171 18).toInt = y2.toInt := by rw [show pj_fi G0 171 18 = y2 from hy2.symm]
          exact pj_X_rt rfl rfl ⟨_, rfl, rfl, ⟨by omega, by omega⟩, by omega⟩
theorem ct_184_s9 (G0 : pj_G) (hI : pj_Inv G0) : pj_Y 15 184 [.ref 171, .retAddr 9] G0 (fun v G' => ∃ y : Int32, v = some (.int y) ∧ G0 = G' ∧ ((-1 : Int) ≤ y.toInt ∧ y.toInt ≤ 8) ∧ (0 ≤ y.toInt → (pj_fi G0 171 17).toInt < (pj_fi G0 171 18).toInt)) := by
  have c0_ : (Int32.ofInt (-1)).toInt = -1 := by decide
  have c1_ : (Int32.ofInt 0).toInt = 0 := by decide
  have c2_ : (Int32.ofInt 1).toInt = 1 := by decide
  refine pj_Y_X (M := pj_m184) rfl rfl (Nat.le_of_ble_eq_true rfl) ?_
  have hK : pj_kpt ([], [], []) G0 G0 := pj_kpt_r _ _
  show pj_X _ _ G0 0 [(0, .ref 171), (1, .retAddr 9)] [] _
  obtain ⟨y22, hy22⟩ : ∃ z : Int32, z = pj_fi G0 171 17 := ⟨_, rfl⟩
  have ey22 : (pj_fi G0 171 17).toInt = y22.toInt := by rw [hy22]
  have ry22 : (0 : Int) ≤ y22.toInt ∧ y22.toInt ≤ 80 := by rw [hy22]; exact hI.2.1 171 17 (0, 80) rfl
  obtain ⟨y23, hy23⟩ : ∃ z : Int32, z = pj_fi G0 171 18 := ⟨_, rfl⟩
  have ey23 : (pj_fi G0 171 18).toInt = y23.toInt := by rw [hy23]
  have ry23 : (0 : Int) ≤ y23.toInt ∧ y23.toInt ≤ 80 := by rw [hy23]; exact hI.2.1 171 18 (0, 80) rfl
  refine pj_X_of (fun r h => pj_R_to (G0, 2, [(2, .int (Int32.ofInt 0)), (0, .ref 171), (1, .retAddr 9)], [], 0, 0) 2 3 (fun _ => rfl) h) ?_
  have q24 : (pj_fi G0 171 17).toInt = y22.toInt := by rw [show pj_fi G0 171 17 = y22 from hy22.symm]
  have q25 : (pj_fi G0 171 18).toInt = y23.toInt := by rw [show pj_fi G0 171 18 = y23 from hy23.symm]
  exact pj_X_sub [(0, .ref 171), (1, .retAddr 9), (2, .int (Int32.ofInt 0))] (show List.Nodup [0, 1, 2] by decide) ⟨rfl, rfl, rfl, trivial⟩ ((lp_ct_184_s9 G0 hI   10) (Int32.ofInt 0) ⟨by omega, by omega⟩ (by omega))
def kc_185_s9 : pj_KT := ([(171, 17)], [171], [])
theorem ct_185_s9 (G0 : pj_G) (hI : pj_Inv G0) : pj_Y 16 185 [.ref 171, .retAddr 9] G0 (fun v G' => ∃ y : Int32, v = some (.int y) ∧ pj_Inv G' ∧ pj_kpt kc_185_s9 G0 G' ∧ ((-1 : Int) ≤ y.toInt ∧ y.toInt ≤ 8) ∧ ((0 ≤ y.toInt → (pj_fi G' 171 17).toInt = (pj_fi G0 171 17).toInt + 1 ∧ (pj_fi G0 171 17).toInt < (pj_fi G0 171 18).toInt) ∧ (y.toInt < 0 → (pj_fi G' 171 17).toInt = (pj_fi G0 171 17).toInt))) := by
  have c0_ : (Int32.ofInt 0).toInt = 0 := by decide
  have c1_ : (Int32.ofInt 1).toInt = 1 := by decide
  refine pj_Y_X (M := pj_m185) rfl rfl (Nat.le_of_ble_eq_true rfl) ?_
  have hK : pj_kpt kc_185_s9 G0 G0 := pj_kpt_r _ _
  show pj_X _ _ G0 0 [(0, .ref 171), (1, .retAddr 9)] [] _
  obtain ⟨y1, hy1⟩ : ∃ z : Int32, z = pj_fi G0 171 17 := ⟨_, rfl⟩
  have ey1 : (pj_fi G0 171 17).toInt = y1.toInt := by rw [hy1]
  have ry1 : (0 : Int) ≤ y1.toInt ∧ y1.toInt ≤ 80 := by rw [hy1]; exact hI.2.1 171 17 (0, 80) rfl
  obtain ⟨y2, hy2⟩ : ∃ z : Int32, z = pj_fi G0 171 18 := ⟨_, rfl⟩
  have ey2 : (pj_fi G0 171 18).toInt = y2.toInt := by rw [hy2]
  have ry2 : (0 : Int) ≤ y2.toInt ∧ y2.toInt ≤ 80 := by rw [hy2]; exact hI.2.1 171 18 (0, 80) rfl
  refine pj_X_of (fun r h => pj_R_to (G0, 2, [(0, .ref 171), (1, .retAddr 9)], [.retAddr 9, .ref 171], 0, 0) 2 3 (fun _ => rfl) h) ?_
  have q3 : (pj_fi G0 171 17).toInt = y1.toInt := by rw [show pj_fi G0 171 17 = y1 from hy1.symm]
  have q4 : (pj_fi G0 171 18).toInt = y2.toInt := by rw [show pj_fi G0 171 18 = y2 from hy2.symm]
  refine pj_X_ca (vs := [.ref 171, .retAddr 9]) rfl (fun _ => rfl) ⟨Nat.le_of_ble_eq_true rfl, Nat.le_of_ble_eq_true rfl, pj_T_rcv hI rfl⟩ ⟨rfl, rfl⟩ (pj_Y_up (by decide) (ct_184_s9 G0 hI)) ?_
  rintro _ _ ⟨y5, rfl, rfl, ry5, ey5⟩
  show pj_X _ _ G0 5 [(0, .ref 171), (1, .retAddr 9)] [.int y5] _
  refine pj_X_of (fun r h => pj_R_to (G0, 8, [(2, .int y5), (0, .ref 171), (1, .retAddr 9)], [.ref 171, .ref 171], 0, 0) 8 4 (fun _ => rfl) h) ?_
  refine pj_X_of (fun r h => pj_T_gi hI rfl rfl h) ?_
  show pj_X _ _ G0 11 [(2, .int y5), (0, .ref 171), (1, .retAddr 9)] [.int (pj_fi G0 171 17), .ref 171] _
  refine pj_X_eqi (show pj_fi G0 171 17 = y1 from hy1.symm) ?_
  refine pj_X_of (fun r h => pj_R_to (G0, 12, [(2, .int y5), (0, .ref 171), (1, .retAddr 9)], [.int y5, .int y1, .ref 171], 0, 0) 12 2 (fun _ => rfl) h) ?_
  cases b6 : pj_c1 .lt y5 0 with
  | true =>
    have ub6 := pj_u0_ltT b6
    refine pj_X_of (fun r h => pj_R_ifT 19 rfl rfl b6 h) ?_
    refine pj_X_of (fun r h => pj_R_to (G0, 20, [(2, .int y5), (0, .ref 171), (1, .retAddr 9)], [.int (Int32.ofInt 0), .int y1, .ref 171], 0, 0) 20 2 (fun _ => rfl) h) ?_
    have q7 : (pj_fi G0 171 17).toInt = y1.toInt := by rw [show pj_fi G0 171 17 = y1 from hy1.symm]
    have q8 : (pj_fi G0 171 18).toInt = y2.toInt := by rw [show pj_fi G0 171 18 = y2 from hy2.symm]
    refine pj_X_ca (vs := [.int (Int32.ofInt 0)]) rfl (fun _ => rfl) ⟨Nat.le_of_ble_eq_true rfl, Nat.le_of_ble_eq_true rfl, rfl⟩ ⟨rfl, rfl⟩ (pj_Y_up (by decide) (ct_172x G0 hI (Int32.ofInt 0) ⟨by omega, by omega⟩)) ?_
    rintro _ _ ⟨y9, rfl, rfl, ry9, ey9, fy9⟩
    show pj_X _ _ G0 23 [(2, .int y5), (0, .ref 171), (1, .retAddr 9)] [.int y9, .int y1, .ref 171] _
    refine pj_X_of (fun r h => pj_R_to (G0, 24, [(2, .int y5), (0, .ref 171), (1, .retAddr 9)], [.int (y1 + y9), .ref 171], 0, 0) 24 2 (fun _ => rfl) h) ?_
    obtain ⟨z10, hz10⟩ : ∃ z : Int32, z = y1 + y9 := ⟨_, rfl⟩
    refine pj_X_eqi hz10.symm ?_
    have fz10_0 : z10.toInt = y1.toInt + y9.toInt := by rw [hz10]; exact pj_addI (by have := pj_i32 y1; have := pj_i32 y9; omega) (by have := pj_i32 y1; have := pj_i32 y9; omega)
    refine pj_X_of (fun r h => pj_T_pf hI rfl rfl rfl h) ?_
    show pj_X _ _ (pj_wv G0 171 17 (.int z10)) 27 [(2, .int y5), (0, .ref 171), (1, .retAddr 9)] [] _
    obtain ⟨G11, hG11⟩ : ∃ H, H = pj_wv G0 171 17 (.int z10) := ⟨_, rfl⟩
    have iG11 : pj_Inv G11 := by rw [hG11]; exact pj_Inv_wi hI (ci := 12) rfl (fun q hq => by cases hq; exact ⟨by show (0 : Int) ≤ _; omega, by show _ ≤ (80 : Int); omega⟩)
    have kG11 : pj_kpt kc_185_s9 G0 G11 := by rw [hG11]; exact pj_kpt_v hK rfl
    rw [← hG11]
    refine pj_X_of (fun r h => pj_R_to (G11, 28, [(2, .int y5), (0, .ref 171), (1, .retAddr 9)], [.int y5], 0, 0) 28 2 (fun _ => rfl) h) ?_
    have q12 : (pj_fi G11 171 17).toInt = z10.toInt := by rw [show pj_fi G11 171 17 = z10 from by rw [hG11]; exact pj_fi_wi hI.1 (ci := 12) rfl _]
    have q13 : (pj_fi G11 171 18).toInt = y2.toInt := by rw [show pj_fi G11 171 18 = y2 from by rw [hG11, pj_fi_wv_ne _ _ _ _ _ _ (by decide)]; exact hy2.symm]
    exact pj_X_rt rfl rfl ⟨_, rfl, iG11, kG11, ⟨by omega, by omega⟩, by omega⟩
  | false =>
    have ub6 := pj_u0_ltF b6
    refine pj_X_of (fun r h => pj_R_ifF rfl b6 h) ?_
    refine pj_X_of (fun r h => pj_R_to (G0, 20, [(2, .int y5), (0, .ref 171), (1, .retAddr 9)], [.int (Int32.ofInt 1), .int y1, .ref 171], 0, 0) 20 3 (fun _ => rfl) h) ?_
    have q14 : (pj_fi G0 171 17).toInt = y1.toInt := by rw [show pj_fi G0 171 17 = y1 from hy1.symm]
    have q15 : (pj_fi G0 171 18).toInt = y2.toInt := by rw [show pj_fi G0 171 18 = y2 from hy2.symm]
    refine pj_X_ca (vs := [.int (Int32.ofInt 1)]) rfl (fun _ => rfl) ⟨Nat.le_of_ble_eq_true rfl, Nat.le_of_ble_eq_true rfl, rfl⟩ ⟨rfl, rfl⟩ (pj_Y_up (by decide) (ct_172x G0 hI (Int32.ofInt 1) ⟨by omega, by omega⟩)) ?_
    rintro _ _ ⟨y16, rfl, rfl, ry16, ey16, fy16⟩
    show pj_X _ _ G0 23 [(2, .int y5), (0, .ref 171), (1, .retAddr 9)] [.int y16, .int y1, .ref 171] _
    refine pj_X_of (fun r h => pj_R_to (G0, 24, [(2, .int y5), (0, .ref 171), (1, .retAddr 9)], [.int (y1 + y16), .ref 171], 0, 0) 24 2 (fun _ => rfl) h) ?_
    obtain ⟨z17, hz17⟩ : ∃ z : Int32, z = y1 + y16 := ⟨_, rfl⟩
    refine pj_X_eqi hz17.symm ?_
    have fz17_0 : z17.toInt = y1.toInt + y16.toInt := by rw [hz17]; exact pj_addI (by have := pj_i32 y1; have := pj_i32 y16; omega) (by have := pj_i32 y1; have := pj_i32 y16; omega)
    refine pj_X_of (fun r h => pj_T_pf hI rfl rfl rfl h) ?_
    show pj_X _ _ (pj_wv G0 171 17 (.int z17)) 27 [(2, .int y5), (0, .ref 171), (1, .retAddr 9)] [] _
    obtain ⟨G18, hG18⟩ : ∃ H, H = pj_wv G0 171 17 (.int z17) := ⟨_, rfl⟩
    have iG18 : pj_Inv G18 := by rw [hG18]; exact pj_Inv_wi hI (ci := 12) rfl (fun q hq => by cases hq; exact ⟨by show (0 : Int) ≤ _; omega, by show _ ≤ (80 : Int); omega⟩)
    have kG18 : pj_kpt kc_185_s9 G0 G18 := by rw [hG18]; exact pj_kpt_v hK rfl
    rw [← hG18]
    refine pj_X_of (fun r h => pj_R_to (G18, 28, [(2, .int y5), (0, .ref 171), (1, .retAddr 9)], [.int y5], 0, 0) 28 2 (fun _ => rfl) h) ?_
    have q19 : (pj_fi G18 171 17).toInt = z17.toInt := by rw [show pj_fi G18 171 17 = z17 from by rw [hG18]; exact pj_fi_wi hI.1 (ci := 12) rfl _]
    have q20 : (pj_fi G18 171 18).toInt = y2.toInt := by rw [show pj_fi G18 171 18 = y2 from by rw [hG18, pj_fi_wv_ne _ _ _ _ _ _ (by decide)]; exact hy2.symm]
    exact pj_X_rt rfl rfl ⟨_, rfl, iG18, kG18, ⟨by omega, by omega⟩, by omega⟩
theorem lp_ct_184_s10 (G0 : pj_G) (hI : pj_Inv G0) : ∀ mn : Nat, (∀ (v2 : Int32), ((0 : Int) ≤ v2.toInt ∧ v2.toInt ≤ 7) → 7 - v2.toInt < (mn : Int) → pj_X 14 pj_m184 G0 2 [(0, .ref 171), (1, .retAddr 10), (2, .int v2)] [] (fun v G' => ∃ y : Int32, v = some (.int y) ∧ G0 = G' ∧ ((-1 : Int) ≤ y.toInt ∧ y.toInt ≤ 6) ∧ (0 ≤ y.toInt → (pj_fi G0 171 17).toInt < (pj_fi G0 171 18).toInt))) := by
  have c0_ : (Int32.ofInt (-1)).toInt = -1 := by decide
  have c1_ : (Int32.ofInt 0).toInt = 0 := by decide
  have c2_ : (Int32.ofInt 1).toInt = 1 := by decide
  have hK : pj_kpt ([], [], []) G0 G0 := pj_kpt_r _ _
  intro mn
  induction mn with
  | zero =>
    intro v2 rv2 hm
    exfalso
    omega
  | succ mn ih =>
    intro v2 rv2 hm
    obtain ⟨y1, hy1⟩ : ∃ z : Int32, z = pj_fi G0 171 17 := ⟨_, rfl⟩
    have ey1 : (pj_fi G0 171 17).toInt = y1.toInt := by rw [hy1]
    have ry1 : (0 : Int) ≤ y1.toInt ∧ y1.toInt ≤ 80 := by rw [hy1]; exact hI.2.1 171 17 (0, 80) rfl
    obtain ⟨y2, hy2⟩ : ∃ z : Int32, z = pj_fi G0 171 18 := ⟨_, rfl⟩
    have ey2 : (pj_fi G0 171 18).toInt = y2.toInt := by rw [hy2]
    have ry2 : (0 : Int) ≤ y2.toInt ∧ y2.toInt ≤ 80 := by rw [hy2]; exact hI.2.1 171 18 (0, 80) rfl
    refine pj_X_of (fun r h => pj_R_to (G0, 4, [(0, .ref 171), (1, .retAddr 10), (2, .int v2)], [.retAddr 10, .int v2], 0, 0) 4 3 (fun _ => rfl) h) ?_
    have q3 : (pj_fi G0 171 17).toInt = y1.toInt := by rw [show pj_fi G0 171 17 = y1 from hy1.symm]
    have q4 : (pj_fi G0 171 18).toInt = y2.toInt := by rw [show pj_fi G0 171 18 = y2 from hy2.symm]
    refine pj_X_ca (vs := [.retAddr 10]) rfl (fun _ => rfl) ⟨Nat.le_of_ble_eq_true rfl, Nat.le_of_ble_eq_true rfl, rfl⟩ ⟨rfl, rfl⟩ (pj_Y_up (by decide) (ct_288_s10 G0 hI)) ?_
    rintro _ _ ⟨y5, rfl, rfl, ry5⟩
    show pj_X _ _ G0 7 [(0, .ref 171), (1, .retAddr 10), (2, .int v2)] [.int y5, .int v2] _
    cases b6 : pj_c1 .ge v2 y5 with
    | true =>
      have ub6 := pj_u_geT b6
      refine pj_X_of (fun r h => pj_R_icT 46 rfl rfl b6 h) ?_
      refine pj_X_of (fun r h => pj_R_to (G0, 47, [(0, .ref 171), (1, .retAddr 10), (2, .int v2)], [.int (Int32.ofInt (-1))], 0, 0) 47 2 (fun _ => rfl) h) ?_
      have q7 : (pj_fi G0 171 17).toInt = y1.toInt := by rw [show pj_fi G0 171 17 = y1 from hy1.symm]
      have q8 : (pj_fi G0 171 18).toInt = y2.toInt := by rw [show pj_fi G0 171 18 = y2 from hy2.symm]
      exact pj_X_rt rfl rfl ⟨_, rfl, rfl, ⟨by omega, by omega⟩, by omega⟩
    | false =>
      have ub6 := pj_u_geF b6
      refine pj_X_of (fun r h => pj_R_icF rfl b6 h) ?_
      refine pj_X_of (fun r h => pj_R_to (G0, 11, [(0, .ref 171), (1, .retAddr 10), (2, .int v2)], [.ref 171], 0, 0) 11 2 (fun _ => rfl) h) ?_
      refine pj_X_of (fun r h => pj_T_gi hI rfl rfl h) ?_
      show pj_X _ _ G0 14 [(0, .ref 171), (1, .retAddr 10), (2, .int v2)] [.int (pj_fi G0 171 17)] _
      refine pj_X_eqi (show pj_fi G0 171 17 = y1 from hy1.symm) ?_
      refine pj_X_of (fun r h => pj_R_to (G0, 15, [(0, .ref 171), (1, .retAddr 10), (2, .int v2)], [.ref 171, .int y1], 0, 0) 15 2 (fun _ => rfl) h) ?_
      refine pj_X_of (fun r h => pj_T_gi hI rfl rfl h) ?_
      show pj_X _ _ G0 18 [(0, .ref 171), (1, .retAddr 10), (2, .int v2)] [.int (pj_fi G0 171 18), .int y1] _
      refine pj_X_eqi (show pj_fi G0 171 18 = y2 from hy2.symm) ?_
      cases b9 : pj_c1 .ge y1 y2 with
      | true =>
        have ub9 := pj_u_geT b9
        refine pj_X_of (fun r h => pj_R_icT 46 rfl rfl b9 h) ?_
        refine pj_X_of (fun r h => pj_R_to (G0, 47, [(0, .ref 171), (1, .retAddr 10), (2, .int v2)], [.int (Int32.ofInt (-1))], 0, 0) 47 2 (fun _ => rfl) h) ?_
        have q10 : (pj_fi G0 171 17).toInt = y1.toInt := by rw [show pj_fi G0 171 17 = y1 from hy1.symm]
        have q11 : (pj_fi G0 171 18).toInt = y2.toInt := by rw [show pj_fi G0 171 18 = y2 from hy2.symm]
        exact pj_X_rt rfl rfl ⟨_, rfl, rfl, ⟨by omega, by omega⟩, by omega⟩
      | false =>
        have ub9 := pj_u_geF b9
        refine pj_X_of (fun r h => pj_R_icF rfl b9 h) ?_
        refine pj_X_of (fun r h => pj_R_to (G0, 23, [(0, .ref 171), (1, .retAddr 10), (2, .int v2)], [.int v2, .retAddr 10], 0, 0) 23 3 (fun _ => rfl) h) ?_
        have q12 : (pj_fi G0 171 17).toInt = y1.toInt := by rw [show pj_fi G0 171 17 = y1 from hy1.symm]
        have q13 : (pj_fi G0 171 18).toInt = y2.toInt := by rw [show pj_fi G0 171 18 = y2 from hy2.symm]
        refine pj_X_ca (vs := [.retAddr 10, .int v2]) rfl (fun _ => rfl) ⟨Nat.le_of_ble_eq_true rfl, Nat.le_of_ble_eq_true rfl, rfl⟩ ⟨rfl, rfl⟩ (pj_Y_up (by decide) (ct_289_s10 G0 hI v2 ⟨by omega, by omega⟩)) ?_
        rintro _ _ ⟨y14, rfl, rfl, ry14⟩
        show pj_X _ _ G0 26 [(0, .ref 171), (1, .retAddr 10), (2, .int v2)] [.int y14] _
        refine pj_X_of (fun r h => pj_R_to (G0, 27, [(0, .ref 171), (1, .retAddr 10), (2, .int v2)], [.ref 171, .int y14], 0, 0) 27 2 (fun _ => rfl) h) ?_
        refine pj_X_of (fun r h => pj_T_gr hI rfl rfl rfl h) ?_
        refine pj_X_of (fun r h => pj_R_to (G0, 31, [(0, .ref 171), (1, .retAddr 10), (2, .int v2)], [.ref 171, .ref 180, .int y14], 0, 0) 31 2 (fun _ => rfl) h) ?_
        refine pj_X_of (fun r h => pj_T_gi hI rfl rfl h) ?_
        show pj_X _ _ G0 34 [(0, .ref 171), (1, .retAddr 10), (2, .int v2)] [.int (pj_fi G0 171 17), .ref 180, .int y14] _
        refine pj_X_eqi (show pj_fi G0 171 17 = y1 from hy1.symm) ?_
        refine pj_X_of (fun r h => pj_T_il hI rfl rfl (by omega) (by omega) h) ?_
        show pj_X _ _ G0 35 [(0, .ref 171), (1, .retAddr 10), (2, .int v2)] [.int (pj_ai G0 180 y1.toInt.toNat), .int y14] _
        obtain ⟨z15, hz15⟩ : ∃ z : Int32, z = pj_ai G0 180 y1.toInt.toNat := ⟨_, rfl⟩
        refine pj_X_eqi hz15.symm ?_
        have ez15 : (pj_ai G0 180 y1.toInt.toNat).toInt = z15.toInt := by rw [hz15]
        have fz15_0 : (0 : Int) ≤ z15.toInt ∧ z15.toInt ≤ 255 ∧ (z15.toInt ≤ 0 ∨ 0 ≤ z15.toInt) := by rw [hz15]; exact hI.2.2.1 180 (80, 0, 255, 0, 0) rfl _ (by show _ < 80; omega)
        cases b16 : pj_c1 .ne y14 z15 with
        | true =>
          have ub16 := pj_u_neT b16
          refine pj_X_of (fun r h => pj_R_icT 40 rfl rfl b16 h) ?_
          refine pj_X_of (fun r h => pj_R_to (G0, 43, [(2, .int (v2 + Int32.ofInt 1)), (0, .ref 171), (1, .retAddr 10)], [], 0, 0) 43 2 (fun _ => rfl) h) ?_
          obtain ⟨z17, hz17⟩ : ∃ z : Int32, z = v2 + Int32.ofInt 1 := ⟨_, rfl⟩
          rw [← hz17]
          have fz17_0 : z17.toInt = v2.toInt + (Int32.ofInt 1).toInt := by rw [hz17]; exact pj_addI (by have := pj_i32 v2; have := pj_i32 (Int32.ofInt 1); omega) (by have := pj_i32 v2; have := pj_i32 (Int32.ofInt 1); omega)
          refine pj_X_of (fun r h => pj_R_to (G0, 2, [(2, .int z17), (0, .ref 171), (1, .retAddr 10)], [], 0, 0) 2 2 (fun _ => rfl) h) ?_
          have q18 : (pj_fi G0 171 17).toInt = y1.toInt := by rw [show pj_fi G0 171 17 = y1 from hy1.symm]
          have q19 : (pj_fi G0 171 18).toInt = y2.toInt := by rw [show pj_fi G0 171 18 = y2 from hy2.symm]
          exact pj_X_sub [(0, .ref 171), (1, .retAddr 10), (2, .int z17)] (show List.Nodup [0, 1, 2] by decide) ⟨rfl, rfl, rfl, trivial⟩ (ih z17 ⟨by omega, by omega⟩ (by omega))
        | false =>
          have ub16 := pj_u_neF b16
          refine pj_X_of (fun r h => pj_R_icF rfl b16 h) ?_
          refine pj_X_of (fun r h => pj_R_to (G0, 39, [(0, .ref 171), (1, .retAddr 10), (2, .int v2)], [.int v2], 0, 0) 39 2 (fun _ => rfl) h) ?_
          have q20 : (pj_fi G0 171 17).toInt = y1.toInt := by rw [show pj_fi G0 171 17 = y1 from hy1.symm]
          have q21 : (pj_fi G0 171 18).toInt = y2.toInt := by rw [show pj_fi G0 171 18 = y2 from hy2.symm]
          exact pj_X_rt rfl rfl ⟨_, rfl, rfl, ⟨by omega, by omega⟩, by omega⟩
theorem ct_184_s10 (G0 : pj_G) (hI : pj_Inv G0) : pj_Y 15 184 [.ref 171, .retAddr 10] G0 (fun v G' => ∃ y : Int32, v = some (.int y) ∧ G0 = G' ∧ ((-1 : Int) ≤ y.toInt ∧ y.toInt ≤ 6) ∧ (0 ≤ y.toInt → (pj_fi G0 171 17).toInt < (pj_fi G0 171 18).toInt)) := by
  have c0_ : (Int32.ofInt (-1)).toInt = -1 := by decide
  have c1_ : (Int32.ofInt 0).toInt = 0 := by decide
  have c2_ : (Int32.ofInt 1).toInt = 1 := by decide
  refine pj_Y_X (M := pj_m184) rfl rfl (Nat.le_of_ble_eq_true rfl) ?_
  have hK : pj_kpt ([], [], []) G0 G0 := pj_kpt_r _ _
  show pj_X _ _ G0 0 [(0, .ref 171), (1, .retAddr 10)] [] _
  obtain ⟨y22, hy22⟩ : ∃ z : Int32, z = pj_fi G0 171 17 := ⟨_, rfl⟩
  have ey22 : (pj_fi G0 171 17).toInt = y22.toInt := by rw [hy22]
  have ry22 : (0 : Int) ≤ y22.toInt ∧ y22.toInt ≤ 80 := by rw [hy22]; exact hI.2.1 171 17 (0, 80) rfl
  obtain ⟨y23, hy23⟩ : ∃ z : Int32, z = pj_fi G0 171 18 := ⟨_, rfl⟩
  have ey23 : (pj_fi G0 171 18).toInt = y23.toInt := by rw [hy23]
  have ry23 : (0 : Int) ≤ y23.toInt ∧ y23.toInt ≤ 80 := by rw [hy23]; exact hI.2.1 171 18 (0, 80) rfl
  refine pj_X_of (fun r h => pj_R_to (G0, 2, [(2, .int (Int32.ofInt 0)), (0, .ref 171), (1, .retAddr 10)], [], 0, 0) 2 3 (fun _ => rfl) h) ?_
  have q24 : (pj_fi G0 171 17).toInt = y22.toInt := by rw [show pj_fi G0 171 17 = y22 from hy22.symm]
  have q25 : (pj_fi G0 171 18).toInt = y23.toInt := by rw [show pj_fi G0 171 18 = y23 from hy23.symm]
  exact pj_X_sub [(0, .ref 171), (1, .retAddr 10), (2, .int (Int32.ofInt 0))] (show List.Nodup [0, 1, 2] by decide) ⟨rfl, rfl, rfl, trivial⟩ ((lp_ct_184_s10 G0 hI   8) (Int32.ofInt 0) ⟨by omega, by omega⟩ (by omega))
def kc_185_s10 : pj_KT := ([(171, 17)], [171], [])
theorem ct_185_s10 (G0 : pj_G) (hI : pj_Inv G0) : pj_Y 16 185 [.ref 171, .retAddr 10] G0 (fun v G' => ∃ y : Int32, v = some (.int y) ∧ pj_Inv G' ∧ pj_kpt kc_185_s10 G0 G' ∧ ((-1 : Int) ≤ y.toInt ∧ y.toInt ≤ 6) ∧ ((0 ≤ y.toInt → (pj_fi G' 171 17).toInt = (pj_fi G0 171 17).toInt + 1 ∧ (pj_fi G0 171 17).toInt < (pj_fi G0 171 18).toInt) ∧ (y.toInt < 0 → (pj_fi G' 171 17).toInt = (pj_fi G0 171 17).toInt))) := by
  have c0_ : (Int32.ofInt 0).toInt = 0 := by decide
  have c1_ : (Int32.ofInt 1).toInt = 1 := by decide
  refine pj_Y_X (M := pj_m185) rfl rfl (Nat.le_of_ble_eq_true rfl) ?_
  have hK : pj_kpt kc_185_s10 G0 G0 := pj_kpt_r _ _
  show pj_X _ _ G0 0 [(0, .ref 171), (1, .retAddr 10)] [] _
  obtain ⟨y1, hy1⟩ : ∃ z : Int32, z = pj_fi G0 171 17 := ⟨_, rfl⟩
  have ey1 : (pj_fi G0 171 17).toInt = y1.toInt := by rw [hy1]
  have ry1 : (0 : Int) ≤ y1.toInt ∧ y1.toInt ≤ 80 := by rw [hy1]; exact hI.2.1 171 17 (0, 80) rfl
  obtain ⟨y2, hy2⟩ : ∃ z : Int32, z = pj_fi G0 171 18 := ⟨_, rfl⟩
  have ey2 : (pj_fi G0 171 18).toInt = y2.toInt := by rw [hy2]
  have ry2 : (0 : Int) ≤ y2.toInt ∧ y2.toInt ≤ 80 := by rw [hy2]; exact hI.2.1 171 18 (0, 80) rfl
  refine pj_X_of (fun r h => pj_R_to (G0, 2, [(0, .ref 171), (1, .retAddr 10)], [.retAddr 10, .ref 171], 0, 0) 2 3 (fun _ => rfl) h) ?_
  have q3 : (pj_fi G0 171 17).toInt = y1.toInt := by rw [show pj_fi G0 171 17 = y1 from hy1.symm]
  have q4 : (pj_fi G0 171 18).toInt = y2.toInt := by rw [show pj_fi G0 171 18 = y2 from hy2.symm]
  refine pj_X_ca (vs := [.ref 171, .retAddr 10]) rfl (fun _ => rfl) ⟨Nat.le_of_ble_eq_true rfl, Nat.le_of_ble_eq_true rfl, pj_T_rcv hI rfl⟩ ⟨rfl, rfl⟩ (pj_Y_up (by decide) (ct_184_s10 G0 hI)) ?_
  rintro _ _ ⟨y5, rfl, rfl, ry5, ey5⟩
  show pj_X _ _ G0 5 [(0, .ref 171), (1, .retAddr 10)] [.int y5] _
  refine pj_X_of (fun r h => pj_R_to (G0, 8, [(2, .int y5), (0, .ref 171), (1, .retAddr 10)], [.ref 171, .ref 171], 0, 0) 8 4 (fun _ => rfl) h) ?_
  refine pj_X_of (fun r h => pj_T_gi hI rfl rfl h) ?_
  show pj_X _ _ G0 11 [(2, .int y5), (0, .ref 171), (1, .retAddr 10)] [.int (pj_fi G0 171 17), .ref 171] _
  refine pj_X_eqi (show pj_fi G0 171 17 = y1 from hy1.symm) ?_
  refine pj_X_of (fun r h => pj_R_to (G0, 12, [(2, .int y5), (0, .ref 171), (1, .retAddr 10)], [.int y5, .int y1, .ref 171], 0, 0) 12 2 (fun _ => rfl) h) ?_
  cases b6 : pj_c1 .lt y5 0 with
  | true =>
    have ub6 := pj_u0_ltT b6
    refine pj_X_of (fun r h => pj_R_ifT 19 rfl rfl b6 h) ?_
    refine pj_X_of (fun r h => pj_R_to (G0, 20, [(2, .int y5), (0, .ref 171), (1, .retAddr 10)], [.int (Int32.ofInt 0), .int y1, .ref 171], 0, 0) 20 2 (fun _ => rfl) h) ?_
    have q7 : (pj_fi G0 171 17).toInt = y1.toInt := by rw [show pj_fi G0 171 17 = y1 from hy1.symm]
    have q8 : (pj_fi G0 171 18).toInt = y2.toInt := by rw [show pj_fi G0 171 18 = y2 from hy2.symm]
    refine pj_X_ca (vs := [.int (Int32.ofInt 0)]) rfl (fun _ => rfl) ⟨Nat.le_of_ble_eq_true rfl, Nat.le_of_ble_eq_true rfl, rfl⟩ ⟨rfl, rfl⟩ (pj_Y_up (by decide) (ct_172x G0 hI (Int32.ofInt 0) ⟨by omega, by omega⟩)) ?_
    rintro _ _ ⟨y9, rfl, rfl, ry9, ey9, fy9⟩
    show pj_X _ _ G0 23 [(2, .int y5), (0, .ref 171), (1, .retAddr 10)] [.int y9, .int y1, .ref 171] _
    refine pj_X_of (fun r h => pj_R_to (G0, 24, [(2, .int y5), (0, .ref 171), (1, .retAddr 10)], [.int (y1 + y9), .ref 171], 0, 0) 24 2 (fun _ => rfl) h) ?_
    obtain ⟨z10, hz10⟩ : ∃ z : Int32, z = y1 + y9 := ⟨_, rfl⟩
    refine pj_X_eqi hz10.symm ?_
    have fz10_0 : z10.toInt = y1.toInt + y9.toInt := by rw [hz10]; exact pj_addI (by have := pj_i32 y1; have := pj_i32 y9; omega) (by have := pj_i32 y1; have := pj_i32 y9; omega)
    refine pj_X_of (fun r h => pj_T_pf hI rfl rfl rfl h) ?_
    show pj_X _ _ (pj_wv G0 171 17 (.int z10)) 27 [(2, .int y5), (0, .ref 171), (1, .retAddr 10)] [] _
    obtain ⟨G11, hG11⟩ : ∃ H, H = pj_wv G0 171 17 (.int z10) := ⟨_, rfl⟩
    have iG11 : pj_Inv G11 := by rw [hG11]; exact pj_Inv_wi hI (ci := 12) rfl (fun q hq => by cases hq; exact ⟨by show (0 : Int) ≤ _; omega, by show _ ≤ (80 : Int); omega⟩)
    have kG11 : pj_kpt kc_185_s10 G0 G11 := by rw [hG11]; exact pj_kpt_v hK rfl
    rw [← hG11]
    refine pj_X_of (fun r h => pj_R_to (G11, 28, [(2, .int y5), (0, .ref 171), (1, .retAddr 10)], [.int y5], 0, 0) 28 2 (fun _ => rfl) h) ?_
    have q12 : (pj_fi G11 171 17).toInt = z10.toInt := by rw [show pj_fi G11 171 17 = z10 from by rw [hG11]; exact pj_fi_wi hI.1 (ci := 12) rfl _]
    have q13 : (pj_fi G11 171 18).toInt = y2.toInt := by rw [show pj_fi G11 171 18 = y2 from by rw [hG11, pj_fi_wv_ne _ _ _ _ _ _ (by decide)]; exact hy2.symm]
    exact pj_X_rt rfl rfl ⟨_, rfl, iG11, kG11, ⟨by omega, by omega⟩, by omega⟩
  | false =>
    have ub6 := pj_u0_ltF b6
    refine pj_X_of (fun r h => pj_R_ifF rfl b6 h) ?_
    refine pj_X_of (fun r h => pj_R_to (G0, 20, [(2, .int y5), (0, .ref 171), (1, .retAddr 10)], [.int (Int32.ofInt 1), .int y1, .ref 171], 0, 0) 20 3 (fun _ => rfl) h) ?_
    have q14 : (pj_fi G0 171 17).toInt = y1.toInt := by rw [show pj_fi G0 171 17 = y1 from hy1.symm]
    have q15 : (pj_fi G0 171 18).toInt = y2.toInt := by rw [show pj_fi G0 171 18 = y2 from hy2.symm]
    refine pj_X_ca (vs := [.int (Int32.ofInt 1)]) rfl (fun _ => rfl) ⟨Nat.le_of_ble_eq_true rfl, Nat.le_of_ble_eq_true rfl, rfl⟩ ⟨rfl, rfl⟩ (pj_Y_up (by decide) (ct_172x G0 hI (Int32.ofInt 1) ⟨by omega, by omega⟩)) ?_
    rintro _ _ ⟨y16, rfl, rfl, ry16, ey16, fy16⟩
    show pj_X _ _ G0 23 [(2, .int y5), (0, .ref 171), (1, .retAddr 10)] [.int y16, .int y1, .ref 171] _
    refine pj_X_of (fun r h => pj_R_to (G0, 24, [(2, .int y5), (0, .ref 171), (1, .retAddr 10)], [.int (y1 + y16), .ref 171], 0, 0) 24 2 (fun _ => rfl) h) ?_
    obtain ⟨z17, hz17⟩ : ∃ z : Int32, z = y1 + y16 := ⟨_, rfl⟩
    refine pj_X_eqi hz17.symm ?_
    have fz17_0 : z17.toInt = y1.toInt + y16.toInt := by rw [hz17]; exact pj_addI (by have := pj_i32 y1; have := pj_i32 y16; omega) (by have := pj_i32 y1; have := pj_i32 y16; omega)
    refine pj_X_of (fun r h => pj_T_pf hI rfl rfl rfl h) ?_
    show pj_X _ _ (pj_wv G0 171 17 (.int z17)) 27 [(2, .int y5), (0, .ref 171), (1, .retAddr 10)] [] _
    obtain ⟨G18, hG18⟩ : ∃ H, H = pj_wv G0 171 17 (.int z17) := ⟨_, rfl⟩
    have iG18 : pj_Inv G18 := by rw [hG18]; exact pj_Inv_wi hI (ci := 12) rfl (fun q hq => by cases hq; exact ⟨by show (0 : Int) ≤ _; omega, by show _ ≤ (80 : Int); omega⟩)
    have kG18 : pj_kpt kc_185_s10 G0 G18 := by rw [hG18]; exact pj_kpt_v hK rfl
    rw [← hG18]
    refine pj_X_of (fun r h => pj_R_to (G18, 28, [(2, .int y5), (0, .ref 171), (1, .retAddr 10)], [.int y5], 0, 0) 28 2 (fun _ => rfl) h) ?_
    have q19 : (pj_fi G18 171 17).toInt = z17.toInt := by rw [show pj_fi G18 171 17 = z17 from by rw [hG18]; exact pj_fi_wi hI.1 (ci := 12) rfl _]
    have q20 : (pj_fi G18 171 18).toInt = y2.toInt := by rw [show pj_fi G18 171 18 = y2 from by rw [hG18, pj_fi_wv_ne _ _ _ _ _ _ (by decide)]; exact hy2.symm]
    exact pj_X_rt rfl rfl ⟨_, rfl, iG18, kG18, ⟨by omega, by omega⟩, by omega⟩
theorem lp_ct_184_s11 (G0 : pj_G) (hI : pj_Inv G0) : ∀ mn : Nat, (∀ (v2 : Int32), ((0 : Int) ≤ v2.toInt ∧ v2.toInt ≤ 7) → 7 - v2.toInt < (mn : Int) → pj_X 14 pj_m184 G0 2 [(0, .ref 171), (1, .retAddr 11), (2, .int v2)] [] (fun v G' => ∃ y : Int32, v = some (.int y) ∧ G0 = G' ∧ ((-1 : Int) ≤ y.toInt ∧ y.toInt ≤ 6) ∧ (0 ≤ y.toInt → (pj_fi G0 171 17).toInt < (pj_fi G0 171 18).toInt))) := by
  have c0_ : (Int32.ofInt (-1)).toInt = -1 := by decide
  have c1_ : (Int32.ofInt 0).toInt = 0 := by decide
  have c2_ : (Int32.ofInt 1).toInt = 1 := by decide
  have hK : pj_kpt ([], [], []) G0 G0 := pj_kpt_r _ _
  intro mn
  induction mn with
  | zero =>
    intro v2 rv2 hm
    exfalso
    omega
  | succ mn ih =>
    intro v2 rv2 hm
    obtain ⟨y1, hy1⟩ : ∃ z : Int32, z = pj_fi G0 171 17 := ⟨_, rfl⟩
    have ey1 : (pj_fi G0 171 17).toInt = y1.toInt := by rw [hy1]
    have ry1 : (0 : Int) ≤ y1.toInt ∧ y1.toInt ≤ 80 := by rw [hy1]; exact hI.2.1 171 17 (0, 80) rfl
    obtain ⟨y2, hy2⟩ : ∃ z : Int32, z = pj_fi G0 171 18 := ⟨_, rfl⟩
    have ey2 : (pj_fi G0 171 18).toInt = y2.toInt := by rw [hy2]
    have ry2 : (0 : Int) ≤ y2.toInt ∧ y2.toInt ≤ 80 := by rw [hy2]; exact hI.2.1 171 18 (0, 80) rfl
    refine pj_X_of (fun r h => pj_R_to (G0, 4, [(0, .ref 171), (1, .retAddr 11), (2, .int v2)], [.retAddr 11, .int v2], 0, 0) 4 3 (fun _ => rfl) h) ?_
    have q3 : (pj_fi G0 171 17).toInt = y1.toInt := by rw [show pj_fi G0 171 17 = y1 from hy1.symm]
    have q4 : (pj_fi G0 171 18).toInt = y2.toInt := by rw [show pj_fi G0 171 18 = y2 from hy2.symm]
    refine pj_X_ca (vs := [.retAddr 11]) rfl (fun _ => rfl) ⟨Nat.le_of_ble_eq_true rfl, Nat.le_of_ble_eq_true rfl, rfl⟩ ⟨rfl, rfl⟩ (pj_Y_up (by decide) (ct_288_s11 G0 hI)) ?_
    rintro _ _ ⟨y5, rfl, rfl, ry5⟩
    show pj_X _ _ G0 7 [(0, .ref 171), (1, .retAddr 11), (2, .int v2)] [.int y5, .int v2] _
    cases b6 : pj_c1 .ge v2 y5 with
    | true =>
      have ub6 := pj_u_geT b6
      refine pj_X_of (fun r h => pj_R_icT 46 rfl rfl b6 h) ?_
      refine pj_X_of (fun r h => pj_R_to (G0, 47, [(0, .ref 171), (1, .retAddr 11), (2, .int v2)], [.int (Int32.ofInt (-1))], 0, 0) 47 2 (fun _ => rfl) h) ?_
      have q7 : (pj_fi G0 171 17).toInt = y1.toInt := by rw [show pj_fi G0 171 17 = y1 from hy1.symm]
      have q8 : (pj_fi G0 171 18).toInt = y2.toInt := by rw [show pj_fi G0 171 18 = y2 from hy2.symm]
      exact pj_X_rt rfl rfl ⟨_, rfl, rfl, ⟨by omega, by omega⟩, by omega⟩
    | false =>
      have ub6 := pj_u_geF b6
      refine pj_X_of (fun r h => pj_R_icF rfl b6 h) ?_
      refine pj_X_of (fun r h => pj_R_to (G0, 11, [(0, .ref 171), (1, .retAddr 11), (2, .int v2)], [.ref 171], 0, 0) 11 2 (fun _ => rfl) h) ?_
      refine pj_X_of (fun r h => pj_T_gi hI rfl rfl h) ?_
      show pj_X _ _ G0 14 [(0, .ref 171), (1, .retAddr 11), (2, .int v2)] [.int (pj_fi G0 171 17)] _
      refine pj_X_eqi (show pj_fi G0 171 17 = y1 from hy1.symm) ?_
      refine pj_X_of (fun r h => pj_R_to (G0, 15, [(0, .ref 171), (1, .retAddr 11), (2, .int v2)], [.ref 171, .int y1], 0, 0) 15 2 (fun _ => rfl) h) ?_
      refine pj_X_of (fun r h => pj_T_gi hI rfl rfl h) ?_
      show pj_X _ _ G0 18 [(0, .ref 171), (1, .retAddr 11), (2, .int v2)] [.int (pj_fi G0 171 18), .int y1] _
      refine pj_X_eqi (show pj_fi G0 171 18 = y2 from hy2.symm) ?_
      cases b9 : pj_c1 .ge y1 y2 with
      | true =>
        have ub9 := pj_u_geT b9
        refine pj_X_of (fun r h => pj_R_icT 46 rfl rfl b9 h) ?_
        refine pj_X_of (fun r h => pj_R_to (G0, 47, [(0, .ref 171), (1, .retAddr 11), (2, .int v2)], [.int (Int32.ofInt (-1))], 0, 0) 47 2 (fun _ => rfl) h) ?_
        have q10 : (pj_fi G0 171 17).toInt = y1.toInt := by rw [show pj_fi G0 171 17 = y1 from hy1.symm]
        have q11 : (pj_fi G0 171 18).toInt = y2.toInt := by rw [show pj_fi G0 171 18 = y2 from hy2.symm]
        exact pj_X_rt rfl rfl ⟨_, rfl, rfl, ⟨by omega, by omega⟩, by omega⟩
      | false =>
        have ub9 := pj_u_geF b9
        refine pj_X_of (fun r h => pj_R_icF rfl b9 h) ?_
        refine pj_X_of (fun r h => pj_R_to (G0, 23, [(0, .ref 171), (1, .retAddr 11), (2, .int v2)], [.int v2, .retAddr 11], 0, 0) 23 3 (fun _ => rfl) h) ?_
        have q12 : (pj_fi G0 171 17).toInt = y1.toInt := by rw [show pj_fi G0 171 17 = y1 from hy1.symm]
        have q13 : (pj_fi G0 171 18).toInt = y2.toInt := by rw [show pj_fi G0 171 18 = y2 from hy2.symm]
        refine pj_X_ca (vs := [.retAddr 11, .int v2]) rfl (fun _ => rfl) ⟨Nat.le_of_ble_eq_true rfl, Nat.le_of_ble_eq_true rfl, rfl⟩ ⟨rfl, rfl⟩ (pj_Y_up (by decide) (ct_289_s11 G0 hI v2 ⟨by omega, by omega⟩)) ?_
        rintro _ _ ⟨y14, rfl, rfl, ry14⟩
        show pj_X _ _ G0 26 [(0, .ref 171), (1, .retAddr 11), (2, .int v2)] [.int y14] _
        refine pj_X_of (fun r h => pj_R_to (G0, 27, [(0, .ref 171), (1, .retAddr 11), (2, .int v2)], [.ref 171, .int y14], 0, 0) 27 2 (fun _ => rfl) h) ?_
        refine pj_X_of (fun r h => pj_T_gr hI rfl rfl rfl h) ?_
        refine pj_X_of (fun r h => pj_R_to (G0, 31, [(0, .ref 171), (1, .retAddr 11), (2, .int v2)], [.ref 171, .ref 180, .int y14], 0, 0) 31 2 (fun _ => rfl) h) ?_
        refine pj_X_of (fun r h => pj_T_gi hI rfl rfl h) ?_
        show pj_X _ _ G0 34 [(0, .ref 171), (1, .retAddr 11), (2, .int v2)] [.int (pj_fi G0 171 17), .ref 180, .int y14] _
        refine pj_X_eqi (show pj_fi G0 171 17 = y1 from hy1.symm) ?_
        refine pj_X_of (fun r h => pj_T_il hI rfl rfl (by omega) (by omega) h) ?_
        show pj_X _ _ G0 35 [(0, .ref 171), (1, .retAddr 11), (2, .int v2)] [.int (pj_ai G0 180 y1.toInt.toNat), .int y14] _
        obtain ⟨z15, hz15⟩ : ∃ z : Int32, z = pj_ai G0 180 y1.toInt.toNat := ⟨_, rfl⟩
        refine pj_X_eqi hz15.symm ?_
        have ez15 : (pj_ai G0 180 y1.toInt.toNat).toInt = z15.toInt := by rw [hz15]
        have fz15_0 : (0 : Int) ≤ z15.toInt ∧ z15.toInt ≤ 255 ∧ (z15.toInt ≤ 0 ∨ 0 ≤ z15.toInt) := by rw [hz15]; exact hI.2.2.1 180 (80, 0, 255, 0, 0) rfl _ (by show _ < 80; omega)
        cases b16 : pj_c1 .ne y14 z15 with
        | true =>
          have ub16 := pj_u_neT b16
          refine pj_X_of (fun r h => pj_R_icT 40 rfl rfl b16 h) ?_
          refine pj_X_of (fun r h => pj_R_to (G0, 43, [(2, .int (v2 + Int32.ofInt 1)), (0, .ref 171), (1, .retAddr 11)], [], 0, 0) 43 2 (fun _ => rfl) h) ?_
          obtain ⟨z17, hz17⟩ : ∃ z : Int32, z = v2 + Int32.ofInt 1 := ⟨_, rfl⟩
          rw [← hz17]
          have fz17_0 : z17.toInt = v2.toInt + (Int32.ofInt 1).toInt := by rw [hz17]; exact pj_addI (by have := pj_i32 v2; have := pj_i32 (Int32.ofInt 1); omega) (by have := pj_i32 v2; have := pj_i32 (Int32.ofInt 1); omega)
          refine pj_X_of (fun r h => pj_R_to (G0, 2, [(2, .int z17), (0, .ref 171), (1, .retAddr 11)], [], 0, 0) 2 2 (fun _ => rfl) h) ?_
          have q18 : (pj_fi G0 171 17).toInt = y1.toInt := by rw [show pj_fi G0 171 17 = y1 from hy1.symm]
          have q19 : (pj_fi G0 171 18).toInt = y2.toInt := by rw [show pj_fi G0 171 18 = y2 from hy2.symm]
          exact pj_X_sub [(0, .ref 171), (1, .retAddr 11), (2, .int z17)] (show List.Nodup [0, 1, 2] by decide) ⟨rfl, rfl, rfl, trivial⟩ (ih z17 ⟨by omega, by omega⟩ (by omega))
        | false =>
          have ub16 := pj_u_neF b16
          refine pj_X_of (fun r h => pj_R_icF rfl b16 h) ?_
          refine pj_X_of (fun r h => pj_R_to (G0, 39, [(0, .ref 171), (1, .retAddr 11), (2, .int v2)], [.int v2], 0, 0) 39 2 (fun _ => rfl) h) ?_
          have q20 : (pj_fi G0 171 17).toInt = y1.toInt := by rw [show pj_fi G0 171 17 = y1 from hy1.symm]
          have q21 : (pj_fi G0 171 18).toInt = y2.toInt := by rw [show pj_fi G0 171 18 = y2 from hy2.symm]
          exact pj_X_rt rfl rfl ⟨_, rfl, rfl, ⟨by omega, by omega⟩, by omega⟩
theorem ct_184_s11 (G0 : pj_G) (hI : pj_Inv G0) : pj_Y 15 184 [.ref 171, .retAddr 11] G0 (fun v G' => ∃ y : Int32, v = some (.int y) ∧ G0 = G' ∧ ((-1 : Int) ≤ y.toInt ∧ y.toInt ≤ 6) ∧ (0 ≤ y.toInt → (pj_fi G0 171 17).toInt < (pj_fi G0 171 18).toInt)) := by
  have c0_ : (Int32.ofInt (-1)).toInt = -1 := by decide
  have c1_ : (Int32.ofInt 0).toInt = 0 := by decide
  have c2_ : (Int32.ofInt 1).toInt = 1 := by decide
  refine pj_Y_X (M := pj_m184) rfl rfl (Nat.le_of_ble_eq_true rfl) ?_
  have hK : pj_kpt ([], [], []) G0 G0 := pj_kpt_r _ _
  show pj_X _ _ G0 0 [(0, .ref 171), (1, .retAddr 11)] [] _
  obtain ⟨y22, hy22⟩ : ∃ z : Int32, z = pj_fi G0 171 17 := ⟨_, rfl⟩
  have ey22 : (pj_fi G0 171 17).toInt = y22.toInt := by rw [hy22]
  have ry22 : (0 : Int) ≤ y22.toInt ∧ y22.toInt ≤ 80 := by rw [hy22]; exact hI.2.1 171 17 (0, 80) rfl
  obtain ⟨y23, hy23⟩ : ∃ z : Int32, z = pj_fi G0 171 18 := ⟨_, rfl⟩
  have ey23 : (pj_fi G0 171 18).toInt = y23.toInt := by rw [hy23]
  have ry23 : (0 : Int) ≤ y23.toInt ∧ y23.toInt ≤ 80 := by rw [hy23]; exact hI.2.1 171 18 (0, 80) rfl
  refine pj_X_of (fun r h => pj_R_to (G0, 2, [(2, .int (Int32.ofInt 0)), (0, .ref 171), (1, .retAddr 11)], [], 0, 0) 2 3 (fun _ => rfl) h) ?_
  have q24 : (pj_fi G0 171 17).toInt = y22.toInt := by rw [show pj_fi G0 171 17 = y22 from hy22.symm]
  have q25 : (pj_fi G0 171 18).toInt = y23.toInt := by rw [show pj_fi G0 171 18 = y23 from hy23.symm]
  exact pj_X_sub [(0, .ref 171), (1, .retAddr 11), (2, .int (Int32.ofInt 0))] (show List.Nodup [0, 1, 2] by decide) ⟨rfl, rfl, rfl, trivial⟩ ((lp_ct_184_s11 G0 hI   8) (Int32.ofInt 0) ⟨by omega, by omega⟩ (by omega))
def kc_185_s11 : pj_KT := ([(171, 17)], [171], [])
theorem ct_185_s11 (G0 : pj_G) (hI : pj_Inv G0) : pj_Y 16 185 [.ref 171, .retAddr 11] G0 (fun v G' => ∃ y : Int32, v = some (.int y) ∧ pj_Inv G' ∧ pj_kpt kc_185_s11 G0 G' ∧ ((-1 : Int) ≤ y.toInt ∧ y.toInt ≤ 6) ∧ ((0 ≤ y.toInt → (pj_fi G' 171 17).toInt = (pj_fi G0 171 17).toInt + 1 ∧ (pj_fi G0 171 17).toInt < (pj_fi G0 171 18).toInt) ∧ (y.toInt < 0 → (pj_fi G' 171 17).toInt = (pj_fi G0 171 17).toInt))) := by
  have c0_ : (Int32.ofInt 0).toInt = 0 := by decide
  have c1_ : (Int32.ofInt 1).toInt = 1 := by decide
  refine pj_Y_X (M := pj_m185) rfl rfl (Nat.le_of_ble_eq_true rfl) ?_
  have hK : pj_kpt kc_185_s11 G0 G0 := pj_kpt_r _ _
  show pj_X _ _ G0 0 [(0, .ref 171), (1, .retAddr 11)] [] _
  obtain ⟨y1, hy1⟩ : ∃ z : Int32, z = pj_fi G0 171 17 := ⟨_, rfl⟩
  have ey1 : (pj_fi G0 171 17).toInt = y1.toInt := by rw [hy1]
  have ry1 : (0 : Int) ≤ y1.toInt ∧ y1.toInt ≤ 80 := by rw [hy1]; exact hI.2.1 171 17 (0, 80) rfl
  obtain ⟨y2, hy2⟩ : ∃ z : Int32, z = pj_fi G0 171 18 := ⟨_, rfl⟩
  have ey2 : (pj_fi G0 171 18).toInt = y2.toInt := by rw [hy2]
  have ry2 : (0 : Int) ≤ y2.toInt ∧ y2.toInt ≤ 80 := by rw [hy2]; exact hI.2.1 171 18 (0, 80) rfl
  refine pj_X_of (fun r h => pj_R_to (G0, 2, [(0, .ref 171), (1, .retAddr 11)], [.retAddr 11, .ref 171], 0, 0) 2 3 (fun _ => rfl) h) ?_
  have q3 : (pj_fi G0 171 17).toInt = y1.toInt := by rw [show pj_fi G0 171 17 = y1 from hy1.symm]
  have q4 : (pj_fi G0 171 18).toInt = y2.toInt := by rw [show pj_fi G0 171 18 = y2 from hy2.symm]
  refine pj_X_ca (vs := [.ref 171, .retAddr 11]) rfl (fun _ => rfl) ⟨Nat.le_of_ble_eq_true rfl, Nat.le_of_ble_eq_true rfl, pj_T_rcv hI rfl⟩ ⟨rfl, rfl⟩ (pj_Y_up (by decide) (ct_184_s11 G0 hI)) ?_
  rintro _ _ ⟨y5, rfl, rfl, ry5, ey5⟩
  show pj_X _ _ G0 5 [(0, .ref 171), (1, .retAddr 11)] [.int y5] _
  refine pj_X_of (fun r h => pj_R_to (G0, 8, [(2, .int y5), (0, .ref 171), (1, .retAddr 11)], [.ref 171, .ref 171], 0, 0) 8 4 (fun _ => rfl) h) ?_
  refine pj_X_of (fun r h => pj_T_gi hI rfl rfl h) ?_
  show pj_X _ _ G0 11 [(2, .int y5), (0, .ref 171), (1, .retAddr 11)] [.int (pj_fi G0 171 17), .ref 171] _
  refine pj_X_eqi (show pj_fi G0 171 17 = y1 from hy1.symm) ?_
  refine pj_X_of (fun r h => pj_R_to (G0, 12, [(2, .int y5), (0, .ref 171), (1, .retAddr 11)], [.int y5, .int y1, .ref 171], 0, 0) 12 2 (fun _ => rfl) h) ?_
  cases b6 : pj_c1 .lt y5 0 with
  | true =>
    have ub6 := pj_u0_ltT b6
    refine pj_X_of (fun r h => pj_R_ifT 19 rfl rfl b6 h) ?_
    refine pj_X_of (fun r h => pj_R_to (G0, 20, [(2, .int y5), (0, .ref 171), (1, .retAddr 11)], [.int (Int32.ofInt 0), .int y1, .ref 171], 0, 0) 20 2 (fun _ => rfl) h) ?_
    have q7 : (pj_fi G0 171 17).toInt = y1.toInt := by rw [show pj_fi G0 171 17 = y1 from hy1.symm]
    have q8 : (pj_fi G0 171 18).toInt = y2.toInt := by rw [show pj_fi G0 171 18 = y2 from hy2.symm]
    refine pj_X_ca (vs := [.int (Int32.ofInt 0)]) rfl (fun _ => rfl) ⟨Nat.le_of_ble_eq_true rfl, Nat.le_of_ble_eq_true rfl, rfl⟩ ⟨rfl, rfl⟩ (pj_Y_up (by decide) (ct_172x G0 hI (Int32.ofInt 0) ⟨by omega, by omega⟩)) ?_
    rintro _ _ ⟨y9, rfl, rfl, ry9, ey9, fy9⟩
    show pj_X _ _ G0 23 [(2, .int y5), (0, .ref 171), (1, .retAddr 11)] [.int y9, .int y1, .ref 171] _
    refine pj_X_of (fun r h => pj_R_to (G0, 24, [(2, .int y5), (0, .ref 171), (1, .retAddr 11)], [.int (y1 + y9), .ref 171], 0, 0) 24 2 (fun _ => rfl) h) ?_
    obtain ⟨z10, hz10⟩ : ∃ z : Int32, z = y1 + y9 := ⟨_, rfl⟩
    refine pj_X_eqi hz10.symm ?_
    have fz10_0 : z10.toInt = y1.toInt + y9.toInt := by rw [hz10]; exact pj_addI (by have := pj_i32 y1; have := pj_i32 y9; omega) (by have := pj_i32 y1; have := pj_i32 y9; omega)
    refine pj_X_of (fun r h => pj_T_pf hI rfl rfl rfl h) ?_
    show pj_X _ _ (pj_wv G0 171 17 (.int z10)) 27 [(2, .int y5), (0, .ref 171), (1, .retAddr 11)] [] _
    obtain ⟨G11, hG11⟩ : ∃ H, H = pj_wv G0 171 17 (.int z10) := ⟨_, rfl⟩
    have iG11 : pj_Inv G11 := by rw [hG11]; exact pj_Inv_wi hI (ci := 12) rfl (fun q hq => by cases hq; exact ⟨by show (0 : Int) ≤ _; omega, by show _ ≤ (80 : Int); omega⟩)
    have kG11 : pj_kpt kc_185_s11 G0 G11 := by rw [hG11]; exact pj_kpt_v hK rfl
    rw [← hG11]
    refine pj_X_of (fun r h => pj_R_to (G11, 28, [(2, .int y5), (0, .ref 171), (1, .retAddr 11)], [.int y5], 0, 0) 28 2 (fun _ => rfl) h) ?_
    have q12 : (pj_fi G11 171 17).toInt = z10.toInt := by rw [show pj_fi G11 171 17 = z10 from by rw [hG11]; exact pj_fi_wi hI.1 (ci := 12) rfl _]
    have q13 : (pj_fi G11 171 18).toInt = y2.toInt := by rw [show pj_fi G11 171 18 = y2 from by rw [hG11, pj_fi_wv_ne _ _ _ _ _ _ (by decide)]; exact hy2.symm]
    exact pj_X_rt rfl rfl ⟨_, rfl, iG11, kG11, ⟨by omega, by omega⟩, by omega⟩
  | false =>
    have ub6 := pj_u0_ltF b6
    refine pj_X_of (fun r h => pj_R_ifF rfl b6 h) ?_
    refine pj_X_of (fun r h => pj_R_to (G0, 20, [(2, .int y5), (0, .ref 171), (1, .retAddr 11)], [.int (Int32.ofInt 1), .int y1, .ref 171], 0, 0) 20 3 (fun _ => rfl) h) ?_
    have q14 : (pj_fi G0 171 17).toInt = y1.toInt := by rw [show pj_fi G0 171 17 = y1 from hy1.symm]
    have q15 : (pj_fi G0 171 18).toInt = y2.toInt := by rw [show pj_fi G0 171 18 = y2 from hy2.symm]
    refine pj_X_ca (vs := [.int (Int32.ofInt 1)]) rfl (fun _ => rfl) ⟨Nat.le_of_ble_eq_true rfl, Nat.le_of_ble_eq_true rfl, rfl⟩ ⟨rfl, rfl⟩ (pj_Y_up (by decide) (ct_172x G0 hI (Int32.ofInt 1) ⟨by omega, by omega⟩)) ?_
    rintro _ _ ⟨y16, rfl, rfl, ry16, ey16, fy16⟩
    show pj_X _ _ G0 23 [(2, .int y5), (0, .ref 171), (1, .retAddr 11)] [.int y16, .int y1, .ref 171] _
    refine pj_X_of (fun r h => pj_R_to (G0, 24, [(2, .int y5), (0, .ref 171), (1, .retAddr 11)], [.int (y1 + y16), .ref 171], 0, 0) 24 2 (fun _ => rfl) h) ?_
    obtain ⟨z17, hz17⟩ : ∃ z : Int32, z = y1 + y16 := ⟨_, rfl⟩
    refine pj_X_eqi hz17.symm ?_
    have fz17_0 : z17.toInt = y1.toInt + y16.toInt := by rw [hz17]; exact pj_addI (by have := pj_i32 y1; have := pj_i32 y16; omega) (by have := pj_i32 y1; have := pj_i32 y16; omega)
    refine pj_X_of (fun r h => pj_T_pf hI rfl rfl rfl h) ?_
    show pj_X _ _ (pj_wv G0 171 17 (.int z17)) 27 [(2, .int y5), (0, .ref 171), (1, .retAddr 11)] [] _
    obtain ⟨G18, hG18⟩ : ∃ H, H = pj_wv G0 171 17 (.int z17) := ⟨_, rfl⟩
    have iG18 : pj_Inv G18 := by rw [hG18]; exact pj_Inv_wi hI (ci := 12) rfl (fun q hq => by cases hq; exact ⟨by show (0 : Int) ≤ _; omega, by show _ ≤ (80 : Int); omega⟩)
    have kG18 : pj_kpt kc_185_s11 G0 G18 := by rw [hG18]; exact pj_kpt_v hK rfl
    rw [← hG18]
    refine pj_X_of (fun r h => pj_R_to (G18, 28, [(2, .int y5), (0, .ref 171), (1, .retAddr 11)], [.int y5], 0, 0) 28 2 (fun _ => rfl) h) ?_
    have q19 : (pj_fi G18 171 17).toInt = z17.toInt := by rw [show pj_fi G18 171 17 = z17 from by rw [hG18]; exact pj_fi_wi hI.1 (ci := 12) rfl _]
    have q20 : (pj_fi G18 171 18).toInt = y2.toInt := by rw [show pj_fi G18 171 18 = y2 from by rw [hG18, pj_fi_wv_ne _ _ _ _ _ _ (by decide)]; exact hy2.symm]
    exact pj_X_rt rfl rfl ⟨_, rfl, iG18, kG18, ⟨by omega, by omega⟩, by omega⟩
theorem lp_ct_184_s12 (G0 : pj_G) (hI : pj_Inv G0) : ∀ mn : Nat, (∀ (v2 : Int32), ((0 : Int) ≤ v2.toInt ∧ v2.toInt ≤ 3) → 3 - v2.toInt < (mn : Int) → pj_X 14 pj_m184 G0 2 [(0, .ref 171), (1, .retAddr 12), (2, .int v2)] [] (fun v G' => ∃ y : Int32, v = some (.int y) ∧ G0 = G' ∧ ((-1 : Int) ≤ y.toInt ∧ y.toInt ≤ 2) ∧ (0 ≤ y.toInt → (pj_fi G0 171 17).toInt < (pj_fi G0 171 18).toInt))) := by
  have c0_ : (Int32.ofInt (-1)).toInt = -1 := by decide
  have c1_ : (Int32.ofInt 0).toInt = 0 := by decide
  have c2_ : (Int32.ofInt 1).toInt = 1 := by decide
  have hK : pj_kpt ([], [], []) G0 G0 := pj_kpt_r _ _
  intro mn
  induction mn with
  | zero =>
    intro v2 rv2 hm
    exfalso
    omega
  | succ mn ih =>
    intro v2 rv2 hm
    obtain ⟨y1, hy1⟩ : ∃ z : Int32, z = pj_fi G0 171 17 := ⟨_, rfl⟩
    have ey1 : (pj_fi G0 171 17).toInt = y1.toInt := by rw [hy1]
    have ry1 : (0 : Int) ≤ y1.toInt ∧ y1.toInt ≤ 80 := by rw [hy1]; exact hI.2.1 171 17 (0, 80) rfl
    obtain ⟨y2, hy2⟩ : ∃ z : Int32, z = pj_fi G0 171 18 := ⟨_, rfl⟩
    have ey2 : (pj_fi G0 171 18).toInt = y2.toInt := by rw [hy2]
    have ry2 : (0 : Int) ≤ y2.toInt ∧ y2.toInt ≤ 80 := by rw [hy2]; exact hI.2.1 171 18 (0, 80) rfl
    refine pj_X_of (fun r h => pj_R_to (G0, 4, [(0, .ref 171), (1, .retAddr 12), (2, .int v2)], [.retAddr 12, .int v2], 0, 0) 4 3 (fun _ => rfl) h) ?_
    have q3 : (pj_fi G0 171 17).toInt = y1.toInt := by rw [show pj_fi G0 171 17 = y1 from hy1.symm]
    have q4 : (pj_fi G0 171 18).toInt = y2.toInt := by rw [show pj_fi G0 171 18 = y2 from hy2.symm]
    refine pj_X_ca (vs := [.retAddr 12]) rfl (fun _ => rfl) ⟨Nat.le_of_ble_eq_true rfl, Nat.le_of_ble_eq_true rfl, rfl⟩ ⟨rfl, rfl⟩ (pj_Y_up (by decide) (ct_288_s12 G0 hI)) ?_
    rintro _ _ ⟨y5, rfl, rfl, ry5⟩
    show pj_X _ _ G0 7 [(0, .ref 171), (1, .retAddr 12), (2, .int v2)] [.int y5, .int v2] _
    cases b6 : pj_c1 .ge v2 y5 with
    | true =>
      have ub6 := pj_u_geT b6
      refine pj_X_of (fun r h => pj_R_icT 46 rfl rfl b6 h) ?_
      refine pj_X_of (fun r h => pj_R_to (G0, 47, [(0, .ref 171), (1, .retAddr 12), (2, .int v2)], [.int (Int32.ofInt (-1))], 0, 0) 47 2 (fun _ => rfl) h) ?_
      have q7 : (pj_fi G0 171 17).toInt = y1.toInt := by rw [show pj_fi G0 171 17 = y1 from hy1.symm]
      have q8 : (pj_fi G0 171 18).toInt = y2.toInt := by rw [show pj_fi G0 171 18 = y2 from hy2.symm]
      exact pj_X_rt rfl rfl ⟨_, rfl, rfl, ⟨by omega, by omega⟩, by omega⟩
    | false =>
      have ub6 := pj_u_geF b6
      refine pj_X_of (fun r h => pj_R_icF rfl b6 h) ?_
      refine pj_X_of (fun r h => pj_R_to (G0, 11, [(0, .ref 171), (1, .retAddr 12), (2, .int v2)], [.ref 171], 0, 0) 11 2 (fun _ => rfl) h) ?_
      refine pj_X_of (fun r h => pj_T_gi hI rfl rfl h) ?_
      show pj_X _ _ G0 14 [(0, .ref 171), (1, .retAddr 12), (2, .int v2)] [.int (pj_fi G0 171 17)] _
      refine pj_X_eqi (show pj_fi G0 171 17 = y1 from hy1.symm) ?_
      refine pj_X_of (fun r h => pj_R_to (G0, 15, [(0, .ref 171), (1, .retAddr 12), (2, .int v2)], [.ref 171, .int y1], 0, 0) 15 2 (fun _ => rfl) h) ?_
      refine pj_X_of (fun r h => pj_T_gi hI rfl rfl h) ?_
      show pj_X _ _ G0 18 [(0, .ref 171), (1, .retAddr 12), (2, .int v2)] [.int (pj_fi G0 171 18), .int y1] _
      refine pj_X_eqi (show pj_fi G0 171 18 = y2 from hy2.symm) ?_
      cases b9 : pj_c1 .ge y1 y2 with
      | true =>
        have ub9 := pj_u_geT b9
        refine pj_X_of (fun r h => pj_R_icT 46 rfl rfl b9 h) ?_
        refine pj_X_of (fun r h => pj_R_to (G0, 47, [(0, .ref 171), (1, .retAddr 12), (2, .int v2)], [.int (Int32.ofInt (-1))], 0, 0) 47 2 (fun _ => rfl) h) ?_
        have q10 : (pj_fi G0 171 17).toInt = y1.toInt := by rw [show pj_fi G0 171 17 = y1 from hy1.symm]
        have q11 : (pj_fi G0 171 18).toInt = y2.toInt := by rw [show pj_fi G0 171 18 = y2 from hy2.symm]
        exact pj_X_rt rfl rfl ⟨_, rfl, rfl, ⟨by omega, by omega⟩, by omega⟩
      | false =>
        have ub9 := pj_u_geF b9
        refine pj_X_of (fun r h => pj_R_icF rfl b9 h) ?_
        refine pj_X_of (fun r h => pj_R_to (G0, 23, [(0, .ref 171), (1, .retAddr 12), (2, .int v2)], [.int v2, .retAddr 12], 0, 0) 23 3 (fun _ => rfl) h) ?_
        have q12 : (pj_fi G0 171 17).toInt = y1.toInt := by rw [show pj_fi G0 171 17 = y1 from hy1.symm]
        have q13 : (pj_fi G0 171 18).toInt = y2.toInt := by rw [show pj_fi G0 171 18 = y2 from hy2.symm]
        refine pj_X_ca (vs := [.retAddr 12, .int v2]) rfl (fun _ => rfl) ⟨Nat.le_of_ble_eq_true rfl, Nat.le_of_ble_eq_true rfl, rfl⟩ ⟨rfl, rfl⟩ (pj_Y_up (by decide) (ct_289_s12 G0 hI v2 ⟨by omega, by omega⟩)) ?_
        rintro _ _ ⟨y14, rfl, rfl, ry14⟩
        show pj_X _ _ G0 26 [(0, .ref 171), (1, .retAddr 12), (2, .int v2)] [.int y14] _
        refine pj_X_of (fun r h => pj_R_to (G0, 27, [(0, .ref 171), (1, .retAddr 12), (2, .int v2)], [.ref 171, .int y14], 0, 0) 27 2 (fun _ => rfl) h) ?_
        refine pj_X_of (fun r h => pj_T_gr hI rfl rfl rfl h) ?_
        refine pj_X_of (fun r h => pj_R_to (G0, 31, [(0, .ref 171), (1, .retAddr 12), (2, .int v2)], [.ref 171, .ref 180, .int y14], 0, 0) 31 2 (fun _ => rfl) h) ?_
        refine pj_X_of (fun r h => pj_T_gi hI rfl rfl h) ?_
        show pj_X _ _ G0 34 [(0, .ref 171), (1, .retAddr 12), (2, .int v2)] [.int (pj_fi G0 171 17), .ref 180, .int y14] _
        refine pj_X_eqi (show pj_fi G0 171 17 = y1 from hy1.symm) ?_
        refine pj_X_of (fun r h => pj_T_il hI rfl rfl (by omega) (by omega) h) ?_
        show pj_X _ _ G0 35 [(0, .ref 171), (1, .retAddr 12), (2, .int v2)] [.int (pj_ai G0 180 y1.toInt.toNat), .int y14] _
        obtain ⟨z15, hz15⟩ : ∃ z : Int32, z = pj_ai G0 180 y1.toInt.toNat := ⟨_, rfl⟩
        refine pj_X_eqi hz15.symm ?_
        have ez15 : (pj_ai G0 180 y1.toInt.toNat).toInt = z15.toInt := by rw [hz15]
        have fz15_0 : (0 : Int) ≤ z15.toInt ∧ z15.toInt ≤ 255 ∧ (z15.toInt ≤ 0 ∨ 0 ≤ z15.toInt) := by rw [hz15]; exact hI.2.2.1 180 (80, 0, 255, 0, 0) rfl _ (by show _ < 80; omega)
        cases b16 : pj_c1 .ne y14 z15 with
        | true =>
          have ub16 := pj_u_neT b16
          refine pj_X_of (fun r h => pj_R_icT 40 rfl rfl b16 h) ?_
          refine pj_X_of (fun r h => pj_R_to (G0, 43, [(2, .int (v2 + Int32.ofInt 1)), (0, .ref 171), (1, .retAddr 12)], [], 0, 0) 43 2 (fun _ => rfl) h) ?_
          obtain ⟨z17, hz17⟩ : ∃ z : Int32, z = v2 + Int32.ofInt 1 := ⟨_, rfl⟩
          rw [← hz17]
          have fz17_0 : z17.toInt = v2.toInt + (Int32.ofInt 1).toInt := by rw [hz17]; exact pj_addI (by have := pj_i32 v2; have := pj_i32 (Int32.ofInt 1); omega) (by have := pj_i32 v2; have := pj_i32 (Int32.ofInt 1); omega)
          refine pj_X_of (fun r h => pj_R_to (G0, 2, [(2, .int z17), (0, .ref 171), (1, .retAddr 12)], [], 0, 0) 2 2 (fun _ => rfl) h) ?_
          have q18 : (pj_fi G0 171 17).toInt = y1.toInt := by rw [show pj_fi G0 171 17 = y1 from hy1.symm]
          have q19 : (pj_fi G0 171 18).toInt = y2.toInt := by rw [show pj_fi G0 171 18 = y2 from hy2.symm]
          exact pj_X_sub [(0, .ref 171), (1, .retAddr 12), (2, .int z17)] (show List.Nodup [0, 1, 2] by decide) ⟨rfl, rfl, rfl, trivial⟩ (ih z17 ⟨by omega, by omega⟩ (by omega))
        | false =>
          have ub16 := pj_u_neF b16
          refine pj_X_of (fun r h => pj_R_icF rfl b16 h) ?_
          refine pj_X_of (fun r h => pj_R_to (G0, 39, [(0, .ref 171), (1, .retAddr 12), (2, .int v2)], [.int v2], 0, 0) 39 2 (fun _ => rfl) h) ?_
          have q20 : (pj_fi G0 171 17).toInt = y1.toInt := by rw [show pj_fi G0 171 17 = y1 from hy1.symm]
          have q21 : (pj_fi G0 171 18).toInt = y2.toInt := by rw [show pj_fi G0 171 18 = y2 from hy2.symm]
          exact pj_X_rt rfl rfl ⟨_, rfl, rfl, ⟨by omega, by omega⟩, by omega⟩
theorem ct_184_s12 (G0 : pj_G) (hI : pj_Inv G0) : pj_Y 15 184 [.ref 171, .retAddr 12] G0 (fun v G' => ∃ y : Int32, v = some (.int y) ∧ G0 = G' ∧ ((-1 : Int) ≤ y.toInt ∧ y.toInt ≤ 2) ∧ (0 ≤ y.toInt → (pj_fi G0 171 17).toInt < (pj_fi G0 171 18).toInt)) := by
  have c0_ : (Int32.ofInt (-1)).toInt = -1 := by decide
  have c1_ : (Int32.ofInt 0).toInt = 0 := by decide
  have c2_ : (Int32.ofInt 1).toInt = 1 := by decide
  refine pj_Y_X (M := pj_m184) rfl rfl (Nat.le_of_ble_eq_true rfl) ?_
  have hK : pj_kpt ([], [], []) G0 G0 := pj_kpt_r _ _
  show pj_X _ _ G0 0 [(0, .ref 171), (1, .retAddr 12)] [] _
  obtain ⟨y22, hy22⟩ : ∃ z : Int32, z = pj_fi G0 171 17 := ⟨_, rfl⟩
  have ey22 : (pj_fi G0 171 17).toInt = y22.toInt := by rw [hy22]
  have ry22 : (0 : Int) ≤ y22.toInt ∧ y22.toInt ≤ 80 := by rw [hy22]; exact hI.2.1 171 17 (0, 80) rfl
  obtain ⟨y23, hy23⟩ : ∃ z : Int32, z = pj_fi G0 171 18 := ⟨_, rfl⟩
  have ey23 : (pj_fi G0 171 18).toInt = y23.toInt := by rw [hy23]
  have ry23 : (0 : Int) ≤ y23.toInt ∧ y23.toInt ≤ 80 := by rw [hy23]; exact hI.2.1 171 18 (0, 80) rfl
  refine pj_X_of (fun r h => pj_R_to (G0, 2, [(2, .int (Int32.ofInt 0)), (0, .ref 171), (1, .retAddr 12)], [], 0, 0) 2 3 (fun _ => rfl) h) ?_
  have q24 : (pj_fi G0 171 17).toInt = y22.toInt := by rw [show pj_fi G0 171 17 = y22 from hy22.symm]
  have q25 : (pj_fi G0 171 18).toInt = y23.toInt := by rw [show pj_fi G0 171 18 = y23 from hy23.symm]
  exact pj_X_sub [(0, .ref 171), (1, .retAddr 12), (2, .int (Int32.ofInt 0))] (show List.Nodup [0, 1, 2] by decide) ⟨rfl, rfl, rfl, trivial⟩ ((lp_ct_184_s12 G0 hI   4) (Int32.ofInt 0) ⟨by omega, by omega⟩ (by omega))
def kc_185_s12 : pj_KT := ([(171, 17)], [171], [])
theorem ct_185_s12 (G0 : pj_G) (hI : pj_Inv G0) : pj_Y 16 185 [.ref 171, .retAddr 12] G0 (fun v G' => ∃ y : Int32, v = some (.int y) ∧ pj_Inv G' ∧ pj_kpt kc_185_s12 G0 G' ∧ ((-1 : Int) ≤ y.toInt ∧ y.toInt ≤ 2) ∧ ((0 ≤ y.toInt → (pj_fi G' 171 17).toInt = (pj_fi G0 171 17).toInt + 1 ∧ (pj_fi G0 171 17).toInt < (pj_fi G0 171 18).toInt) ∧ (y.toInt < 0 → (pj_fi G' 171 17).toInt = (pj_fi G0 171 17).toInt))) := by
  have c0_ : (Int32.ofInt 0).toInt = 0 := by decide
  have c1_ : (Int32.ofInt 1).toInt = 1 := by decide
  refine pj_Y_X (M := pj_m185) rfl rfl (Nat.le_of_ble_eq_true rfl) ?_
  have hK : pj_kpt kc_185_s12 G0 G0 := pj_kpt_r _ _
  show pj_X _ _ G0 0 [(0, .ref 171), (1, .retAddr 12)] [] _
  obtain ⟨y1, hy1⟩ : ∃ z : Int32, z = pj_fi G0 171 17 := ⟨_, rfl⟩
  have ey1 : (pj_fi G0 171 17).toInt = y1.toInt := by rw [hy1]
  have ry1 : (0 : Int) ≤ y1.toInt ∧ y1.toInt ≤ 80 := by rw [hy1]; exact hI.2.1 171 17 (0, 80) rfl
  obtain ⟨y2, hy2⟩ : ∃ z : Int32, z = pj_fi G0 171 18 := ⟨_, rfl⟩
  have ey2 : (pj_fi G0 171 18).toInt = y2.toInt := by rw [hy2]
  have ry2 : (0 : Int) ≤ y2.toInt ∧ y2.toInt ≤ 80 := by rw [hy2]; exact hI.2.1 171 18 (0, 80) rfl
  refine pj_X_of (fun r h => pj_R_to (G0, 2, [(0, .ref 171), (1, .retAddr 12)], [.retAddr 12, .ref 171], 0, 0) 2 3 (fun _ => rfl) h) ?_
  have q3 : (pj_fi G0 171 17).toInt = y1.toInt := by rw [show pj_fi G0 171 17 = y1 from hy1.symm]
  have q4 : (pj_fi G0 171 18).toInt = y2.toInt := by rw [show pj_fi G0 171 18 = y2 from hy2.symm]
  refine pj_X_ca (vs := [.ref 171, .retAddr 12]) rfl (fun _ => rfl) ⟨Nat.le_of_ble_eq_true rfl, Nat.le_of_ble_eq_true rfl, pj_T_rcv hI rfl⟩ ⟨rfl, rfl⟩ (pj_Y_up (by decide) (ct_184_s12 G0 hI)) ?_
  rintro _ _ ⟨y5, rfl, rfl, ry5, ey5⟩
  show pj_X _ _ G0 5 [(0, .ref 171), (1, .retAddr 12)] [.int y5] _
  refine pj_X_of (fun r h => pj_R_to (G0, 8, [(2, .int y5), (0, .ref 171), (1, .retAddr 12)], [.ref 171, .ref 171], 0, 0) 8 4 (fun _ => rfl) h) ?_
  refine pj_X_of (fun r h => pj_T_gi hI rfl rfl h) ?_
  show pj_X _ _ G0 11 [(2, .int y5), (0, .ref 171), (1, .retAddr 12)] [.int (pj_fi G0 171 17), .ref 171] _
  refine pj_X_eqi (show pj_fi G0 171 17 = y1 from hy1.symm) ?_
  refine pj_X_of (fun r h => pj_R_to (G0, 12, [(2, .int y5), (0, .ref 171), (1, .retAddr 12)], [.int y5, .int y1, .ref 171], 0, 0) 12 2 (fun _ => rfl) h) ?_
  cases b6 : pj_c1 .lt y5 0 with
  | true =>
    have ub6 := pj_u0_ltT b6
    refine pj_X_of (fun r h => pj_R_ifT 19 rfl rfl b6 h) ?_
    refine pj_X_of (fun r h => pj_R_to (G0, 20, [(2, .int y5), (0, .ref 171), (1, .retAddr 12)], [.int (Int32.ofInt 0), .int y1, .ref 171], 0, 0) 20 2 (fun _ => rfl) h) ?_
    have q7 : (pj_fi G0 171 17).toInt = y1.toInt := by rw [show pj_fi G0 171 17 = y1 from hy1.symm]
    have q8 : (pj_fi G0 171 18).toInt = y2.toInt := by rw [show pj_fi G0 171 18 = y2 from hy2.symm]
    refine pj_X_ca (vs := [.int (Int32.ofInt 0)]) rfl (fun _ => rfl) ⟨Nat.le_of_ble_eq_true rfl, Nat.le_of_ble_eq_true rfl, rfl⟩ ⟨rfl, rfl⟩ (pj_Y_up (by decide) (ct_172x G0 hI (Int32.ofInt 0) ⟨by omega, by omega⟩)) ?_
    rintro _ _ ⟨y9, rfl, rfl, ry9, ey9, fy9⟩
    show pj_X _ _ G0 23 [(2, .int y5), (0, .ref 171), (1, .retAddr 12)] [.int y9, .int y1, .ref 171] _
    refine pj_X_of (fun r h => pj_R_to (G0, 24, [(2, .int y5), (0, .ref 171), (1, .retAddr 12)], [.int (y1 + y9), .ref 171], 0, 0) 24 2 (fun _ => rfl) h) ?_
    obtain ⟨z10, hz10⟩ : ∃ z : Int32, z = y1 + y9 := ⟨_, rfl⟩
    refine pj_X_eqi hz10.symm ?_
    have fz10_0 : z10.toInt = y1.toInt + y9.toInt := by rw [hz10]; exact pj_addI (by have := pj_i32 y1; have := pj_i32 y9; omega) (by have := pj_i32 y1; have := pj_i32 y9; omega)
    refine pj_X_of (fun r h => pj_T_pf hI rfl rfl rfl h) ?_
    show pj_X _ _ (pj_wv G0 171 17 (.int z10)) 27 [(2, .int y5), (0, .ref 171), (1, .retAddr 12)] [] _
    obtain ⟨G11, hG11⟩ : ∃ H, H = pj_wv G0 171 17 (.int z10) := ⟨_, rfl⟩
    have iG11 : pj_Inv G11 := by rw [hG11]; exact pj_Inv_wi hI (ci := 12) rfl (fun q hq => by cases hq; exact ⟨by show (0 : Int) ≤ _; omega, by show _ ≤ (80 : Int); omega⟩)
    have kG11 : pj_kpt kc_185_s12 G0 G11 := by rw [hG11]; exact pj_kpt_v hK rfl
    rw [← hG11]
    refine pj_X_of (fun r h => pj_R_to (G11, 28, [(2, .int y5), (0, .ref 171), (1, .retAddr 12)], [.int y5], 0, 0) 28 2 (fun _ => rfl) h) ?_
    have q12 : (pj_fi G11 171 17).toInt = z10.toInt := by rw [show pj_fi G11 171 17 = z10 from by rw [hG11]; exact pj_fi_wi hI.1 (ci := 12) rfl _]
    have q13 : (pj_fi G11 171 18).toInt = y2.toInt := by rw [show pj_fi G11 171 18 = y2 from by rw [hG11, pj_fi_wv_ne _ _ _ _ _ _ (by decide)]; exact hy2.symm]
    exact pj_X_rt rfl rfl ⟨_, rfl, iG11, kG11, ⟨by omega, by omega⟩, by omega⟩
  | false =>
    have ub6 := pj_u0_ltF b6
    refine pj_X_of (fun r h => pj_R_ifF rfl b6 h) ?_
    refine pj_X_of (fun r h => pj_R_to (G0, 20, [(2, .int y5), (0, .ref 171), (1, .retAddr 12)], [.int (Int32.ofInt 1), .int y1, .ref 171], 0, 0) 20 3 (fun _ => rfl) h) ?_
    have q14 : (pj_fi G0 171 17).toInt = y1.toInt := by rw [show pj_fi G0 171 17 = y1 from hy1.symm]
    have q15 : (pj_fi G0 171 18).toInt = y2.toInt := by rw [show pj_fi G0 171 18 = y2 from hy2.symm]
    refine pj_X_ca (vs := [.int (Int32.ofInt 1)]) rfl (fun _ => rfl) ⟨Nat.le_of_ble_eq_true rfl, Nat.le_of_ble_eq_true rfl, rfl⟩ ⟨rfl, rfl⟩ (pj_Y_up (by decide) (ct_172x G0 hI (Int32.ofInt 1) ⟨by omega, by omega⟩)) ?_
    rintro _ _ ⟨y16, rfl, rfl, ry16, ey16, fy16⟩
    show pj_X _ _ G0 23 [(2, .int y5), (0, .ref 171), (1, .retAddr 12)] [.int y16, .int y1, .ref 171] _
    refine pj_X_of (fun r h => pj_R_to (G0, 24, [(2, .int y5), (0, .ref 171), (1, .retAddr 12)], [.int (y1 + y16), .ref 171], 0, 0) 24 2 (fun _ => rfl) h) ?_
    obtain ⟨z17, hz17⟩ : ∃ z : Int32, z = y1 + y16 := ⟨_, rfl⟩
    refine pj_X_eqi hz17.symm ?_
    have fz17_0 : z17.toInt = y1.toInt + y16.toInt := by rw [hz17]; exact pj_addI (by have := pj_i32 y1; have := pj_i32 y16; omega) (by have := pj_i32 y1; have := pj_i32 y16; omega)
    refine pj_X_of (fun r h => pj_T_pf hI rfl rfl rfl h) ?_
    show pj_X _ _ (pj_wv G0 171 17 (.int z17)) 27 [(2, .int y5), (0, .ref 171), (1, .retAddr 12)] [] _
    obtain ⟨G18, hG18⟩ : ∃ H, H = pj_wv G0 171 17 (.int z17) := ⟨_, rfl⟩
    have iG18 : pj_Inv G18 := by rw [hG18]; exact pj_Inv_wi hI (ci := 12) rfl (fun q hq => by cases hq; exact ⟨by show (0 : Int) ≤ _; omega, by show _ ≤ (80 : Int); omega⟩)
    have kG18 : pj_kpt kc_185_s12 G0 G18 := by rw [hG18]; exact pj_kpt_v hK rfl
    rw [← hG18]
    refine pj_X_of (fun r h => pj_R_to (G18, 28, [(2, .int y5), (0, .ref 171), (1, .retAddr 12)], [.int y5], 0, 0) 28 2 (fun _ => rfl) h) ?_
    have q19 : (pj_fi G18 171 17).toInt = z17.toInt := by rw [show pj_fi G18 171 17 = z17 from by rw [hG18]; exact pj_fi_wi hI.1 (ci := 12) rfl _]
    have q20 : (pj_fi G18 171 18).toInt = y2.toInt := by rw [show pj_fi G18 171 18 = y2 from by rw [hG18, pj_fi_wv_ne _ _ _ _ _ _ (by decide)]; exact hy2.symm]
    exact pj_X_rt rfl rfl ⟨_, rfl, iG18, kG18, ⟨by omega, by omega⟩, by omega⟩
theorem lp_ct_184_s13 (G0 : pj_G) (hI : pj_Inv G0) : ∀ mn : Nat, (∀ (v2 : Int32), ((0 : Int) ≤ v2.toInt ∧ v2.toInt ≤ 2) → 2 - v2.toInt < (mn : Int) → pj_X 14 pj_m184 G0 2 [(0, .ref 171), (1, .retAddr 13), (2, .int v2)] [] (fun v G' => ∃ y : Int32, v = some (.int y) ∧ G0 = G' ∧ ((-1 : Int) ≤ y.toInt ∧ y.toInt ≤ 1) ∧ (0 ≤ y.toInt → (pj_fi G0 171 17).toInt < (pj_fi G0 171 18).toInt))) := by
  have c0_ : (Int32.ofInt (-1)).toInt = -1 := by decide
  have c1_ : (Int32.ofInt 0).toInt = 0 := by decide
  have c2_ : (Int32.ofInt 1).toInt = 1 := by decide
  have hK : pj_kpt ([], [], []) G0 G0 := pj_kpt_r _ _
  intro mn
  induction mn with
  | zero =>
    intro v2 rv2 hm
    exfalso
    omega
  | succ mn ih =>
    intro v2 rv2 hm
    obtain ⟨y1, hy1⟩ : ∃ z : Int32, z = pj_fi G0 171 17 := ⟨_, rfl⟩
    have ey1 : (pj_fi G0 171 17).toInt = y1.toInt := by rw [hy1]
    have ry1 : (0 : Int) ≤ y1.toInt ∧ y1.toInt ≤ 80 := by rw [hy1]; exact hI.2.1 171 17 (0, 80) rfl
    obtain ⟨y2, hy2⟩ : ∃ z : Int32, z = pj_fi G0 171 18 := ⟨_, rfl⟩
    have ey2 : (pj_fi G0 171 18).toInt = y2.toInt := by rw [hy2]
    have ry2 : (0 : Int) ≤ y2.toInt ∧ y2.toInt ≤ 80 := by rw [hy2]; exact hI.2.1 171 18 (0, 80) rfl
    refine pj_X_of (fun r h => pj_R_to (G0, 4, [(0, .ref 171), (1, .retAddr 13), (2, .int v2)], [.retAddr 13, .int v2], 0, 0) 4 3 (fun _ => rfl) h) ?_
    have q3 : (pj_fi G0 171 17).toInt = y1.toInt := by rw [show pj_fi G0 171 17 = y1 from hy1.symm]
    have q4 : (pj_fi G0 171 18).toInt = y2.toInt := by rw [show pj_fi G0 171 18 = y2 from hy2.symm]
    refine pj_X_ca (vs := [.retAddr 13]) rfl (fun _ => rfl) ⟨Nat.le_of_ble_eq_true rfl, Nat.le_of_ble_eq_true rfl, rfl⟩ ⟨rfl, rfl⟩ (pj_Y_up (by decide) (ct_288_s13 G0 hI)) ?_
    rintro _ _ ⟨y5, rfl, rfl, ry5⟩
    show pj_X _ _ G0 7 [(0, .ref 171), (1, .retAddr 13), (2, .int v2)] [.int y5, .int v2] _
    cases b6 : pj_c1 .ge v2 y5 with
    | true =>
      have ub6 := pj_u_geT b6
      refine pj_X_of (fun r h => pj_R_icT 46 rfl rfl b6 h) ?_
      refine pj_X_of (fun r h => pj_R_to (G0, 47, [(0, .ref 171), (1, .retAddr 13), (2, .int v2)], [.int (Int32.ofInt (-1))], 0, 0) 47 2 (fun _ => rfl) h) ?_
      have q7 : (pj_fi G0 171 17).toInt = y1.toInt := by rw [show pj_fi G0 171 17 = y1 from hy1.symm]
      have q8 : (pj_fi G0 171 18).toInt = y2.toInt := by rw [show pj_fi G0 171 18 = y2 from hy2.symm]
      exact pj_X_rt rfl rfl ⟨_, rfl, rfl, ⟨by omega, by omega⟩, by omega⟩
    | false =>
      have ub6 := pj_u_geF b6
      refine pj_X_of (fun r h => pj_R_icF rfl b6 h) ?_
      refine pj_X_of (fun r h => pj_R_to (G0, 11, [(0, .ref 171), (1, .retAddr 13), (2, .int v2)], [.ref 171], 0, 0) 11 2 (fun _ => rfl) h) ?_
      refine pj_X_of (fun r h => pj_T_gi hI rfl rfl h) ?_
      show pj_X _ _ G0 14 [(0, .ref 171), (1, .retAddr 13), (2, .int v2)] [.int (pj_fi G0 171 17)] _
      refine pj_X_eqi (show pj_fi G0 171 17 = y1 from hy1.symm) ?_
      refine pj_X_of (fun r h => pj_R_to (G0, 15, [(0, .ref 171), (1, .retAddr 13), (2, .int v2)], [.ref 171, .int y1], 0, 0) 15 2 (fun _ => rfl) h) ?_
      refine pj_X_of (fun r h => pj_T_gi hI rfl rfl h) ?_
      show pj_X _ _ G0 18 [(0, .ref 171), (1, .retAddr 13), (2, .int v2)] [.int (pj_fi G0 171 18), .int y1] _
      refine pj_X_eqi (show pj_fi G0 171 18 = y2 from hy2.symm) ?_
      cases b9 : pj_c1 .ge y1 y2 with
      | true =>
        have ub9 := pj_u_geT b9
        refine pj_X_of (fun r h => pj_R_icT 46 rfl rfl b9 h) ?_
        refine pj_X_of (fun r h => pj_R_to (G0, 47, [(0, .ref 171), (1, .retAddr 13), (2, .int v2)], [.int (Int32.ofInt (-1))], 0, 0) 47 2 (fun _ => rfl) h) ?_
        have q10 : (pj_fi G0 171 17).toInt = y1.toInt := by rw [show pj_fi G0 171 17 = y1 from hy1.symm]
        have q11 : (pj_fi G0 171 18).toInt = y2.toInt := by rw [show pj_fi G0 171 18 = y2 from hy2.symm]
        exact pj_X_rt rfl rfl ⟨_, rfl, rfl, ⟨by omega, by omega⟩, by omega⟩
      | false =>
        have ub9 := pj_u_geF b9
        refine pj_X_of (fun r h => pj_R_icF rfl b9 h) ?_
        refine pj_X_of (fun r h => pj_R_to (G0, 23, [(0, .ref 171), (1, .retAddr 13), (2, .int v2)], [.int v2, .retAddr 13], 0, 0) 23 3 (fun _ => rfl) h) ?_
        have q12 : (pj_fi G0 171 17).toInt = y1.toInt := by rw [show pj_fi G0 171 17 = y1 from hy1.symm]
        have q13 : (pj_fi G0 171 18).toInt = y2.toInt := by rw [show pj_fi G0 171 18 = y2 from hy2.symm]
        refine pj_X_ca (vs := [.retAddr 13, .int v2]) rfl (fun _ => rfl) ⟨Nat.le_of_ble_eq_true rfl, Nat.le_of_ble_eq_true rfl, rfl⟩ ⟨rfl, rfl⟩ (pj_Y_up (by decide) (ct_289_s13 G0 hI v2 ⟨by omega, by omega⟩)) ?_
        rintro _ _ ⟨y14, rfl, rfl, ry14⟩
        show pj_X _ _ G0 26 [(0, .ref 171), (1, .retAddr 13), (2, .int v2)] [.int y14] _
        refine pj_X_of (fun r h => pj_R_to (G0, 27, [(0, .ref 171), (1, .retAddr 13), (2, .int v2)], [.ref 171, .int y14], 0, 0) 27 2 (fun _ => rfl) h) ?_
        refine pj_X_of (fun r h => pj_T_gr hI rfl rfl rfl h) ?_
        refine pj_X_of (fun r h => pj_R_to (G0, 31, [(0, .ref 171), (1, .retAddr 13), (2, .int v2)], [.ref 171, .ref 180, .int y14], 0, 0) 31 2 (fun _ => rfl) h) ?_
        refine pj_X_of (fun r h => pj_T_gi hI rfl rfl h) ?_
        show pj_X _ _ G0 34 [(0, .ref 171), (1, .retAddr 13), (2, .int v2)] [.int (pj_fi G0 171 17), .ref 180, .int y14] _
        refine pj_X_eqi (show pj_fi G0 171 17 = y1 from hy1.symm) ?_
        refine pj_X_of (fun r h => pj_T_il hI rfl rfl (by omega) (by omega) h) ?_
        show pj_X _ _ G0 35 [(0, .ref 171), (1, .retAddr 13), (2, .int v2)] [.int (pj_ai G0 180 y1.toInt.toNat), .int y14] _
        obtain ⟨z15, hz15⟩ : ∃ z : Int32, z = pj_ai G0 180 y1.toInt.toNat := ⟨_, rfl⟩
        refine pj_X_eqi hz15.symm ?_
        have ez15 : (pj_ai G0 180 y1.toInt.toNat).toInt = z15.toInt := by rw [hz15]
        have fz15_0 : (0 : Int) ≤ z15.toInt ∧ z15.toInt ≤ 255 ∧ (z15.toInt ≤ 0 ∨ 0 ≤ z15.toInt) := by rw [hz15]; exact hI.2.2.1 180 (80, 0, 255, 0, 0) rfl _ (by show _ < 80; omega)
        cases b16 : pj_c1 .ne y14 z15 with
        | true =>
          have ub16 := pj_u_neT b16
          refine pj_X_of (fun r h => pj_R_icT 40 rfl rfl b16 h) ?_
          refine pj_X_of (fun r h => pj_R_to (G0, 43, [(2, .int (v2 + Int32.ofInt 1)), (0, .ref 171), (1, .retAddr 13)], [], 0, 0) 43 2 (fun _ => rfl) h) ?_
          obtain ⟨z17, hz17⟩ : ∃ z : Int32, z = v2 + Int32.ofInt 1 := ⟨_, rfl⟩
          rw [← hz17]
          have fz17_0 : z17.toInt = v2.toInt + (Int32.ofInt 1).toInt := by rw [hz17]; exact pj_addI (by have := pj_i32 v2; have := pj_i32 (Int32.ofInt 1); omega) (by have := pj_i32 v2; have := pj_i32 (Int32.ofInt 1); omega)
          refine pj_X_of (fun r h => pj_R_to (G0, 2, [(2, .int z17), (0, .ref 171), (1, .retAddr 13)], [], 0, 0) 2 2 (fun _ => rfl) h) ?_
          have q18 : (pj_fi G0 171 17).toInt = y1.toInt := by rw [show pj_fi G0 171 17 = y1 from hy1.symm]
          have q19 : (pj_fi G0 171 18).toInt = y2.toInt := by rw [show pj_fi G0 171 18 = y2 from hy2.symm]
          exact pj_X_sub [(0, .ref 171), (1, .retAddr 13), (2, .int z17)] (show List.Nodup [0, 1, 2] by decide) ⟨rfl, rfl, rfl, trivial⟩ (ih z17 ⟨by omega, by omega⟩ (by omega))
        | false =>
          have ub16 := pj_u_neF b16
          refine pj_X_of (fun r h => pj_R_icF rfl b16 h) ?_
          refine pj_X_of (fun r h => pj_R_to (G0, 39, [(0, .ref 171), (1, .retAddr 13), (2, .int v2)], [.int v2], 0, 0) 39 2 (fun _ => rfl) h) ?_
          have q20 : (pj_fi G0 171 17).toInt = y1.toInt := by rw [show pj_fi G0 171 17 = y1 from hy1.symm]
          have q21 : (pj_fi G0 171 18).toInt = y2.toInt := by rw [show pj_fi G0 171 18 = y2 from hy2.symm]
          exact pj_X_rt rfl rfl ⟨_, rfl, rfl, ⟨by omega, by omega⟩, by omega⟩
theorem ct_184_s13 (G0 : pj_G) (hI : pj_Inv G0) : pj_Y 15 184 [.ref 171, .retAddr 13] G0 (fun v G' => ∃ y : Int32, v = some (.int y) ∧ G0 = G' ∧ ((-1 : Int) ≤ y.toInt ∧ y.toInt ≤ 1) ∧ (0 ≤ y.toInt → (pj_fi G0 171 17).toInt < (pj_fi G0 171 18).toInt)) := by
  have c0_ : (Int32.ofInt (-1)).toInt = -1 := by decide
  have c1_ : (Int32.ofInt 0).toInt = 0 := by decide
  have c2_ : (Int32.ofInt 1).toInt = 1 := by decide
  refine pj_Y_X (M := pj_m184) rfl rfl (Nat.le_of_ble_eq_true rfl) ?_
  have hK : pj_kpt ([], [], []) G0 G0 := pj_kpt_r _ _
  show pj_X _ _ G0 0 [(0, .ref 171), (1, .retAddr 13)] [] _
  obtain ⟨y22, hy22⟩ : ∃ z : Int32, z = pj_fi G0 171 17 := ⟨_, rfl⟩
  have ey22 : (pj_fi G0 171 17).toInt = y22.toInt := by rw [hy22]
  have ry22 : (0 : Int) ≤ y22.toInt ∧ y22.toInt ≤ 80 := by rw [hy22]; exact hI.2.1 171 17 (0, 80) rfl
  obtain ⟨y23, hy23⟩ : ∃ z : Int32, z = pj_fi G0 171 18 := ⟨_, rfl⟩
  have ey23 : (pj_fi G0 171 18).toInt = y23.toInt := by rw [hy23]
  have ry23 : (0 : Int) ≤ y23.toInt ∧ y23.toInt ≤ 80 := by rw [hy23]; exact hI.2.1 171 18 (0, 80) rfl
  refine pj_X_of (fun r h => pj_R_to (G0, 2, [(2, .int (Int32.ofInt 0)), (0, .ref 171), (1, .retAddr 13)], [], 0, 0) 2 3 (fun _ => rfl) h) ?_
  have q24 : (pj_fi G0 171 17).toInt = y22.toInt := by rw [show pj_fi G0 171 17 = y22 from hy22.symm]
  have q25 : (pj_fi G0 171 18).toInt = y23.toInt := by rw [show pj_fi G0 171 18 = y23 from hy23.symm]
  exact pj_X_sub [(0, .ref 171), (1, .retAddr 13), (2, .int (Int32.ofInt 0))] (show List.Nodup [0, 1, 2] by decide) ⟨rfl, rfl, rfl, trivial⟩ ((lp_ct_184_s13 G0 hI   3) (Int32.ofInt 0) ⟨by omega, by omega⟩ (by omega))
def kc_185_s13 : pj_KT := ([(171, 17)], [171], [])
theorem ct_185_s13 (G0 : pj_G) (hI : pj_Inv G0) : pj_Y 16 185 [.ref 171, .retAddr 13] G0 (fun v G' => ∃ y : Int32, v = some (.int y) ∧ pj_Inv G' ∧ pj_kpt kc_185_s13 G0 G' ∧ ((-1 : Int) ≤ y.toInt ∧ y.toInt ≤ 1) ∧ ((0 ≤ y.toInt → (pj_fi G' 171 17).toInt = (pj_fi G0 171 17).toInt + 1 ∧ (pj_fi G0 171 17).toInt < (pj_fi G0 171 18).toInt) ∧ (y.toInt < 0 → (pj_fi G' 171 17).toInt = (pj_fi G0 171 17).toInt))) := by
  have c0_ : (Int32.ofInt 0).toInt = 0 := by decide
  have c1_ : (Int32.ofInt 1).toInt = 1 := by decide
  refine pj_Y_X (M := pj_m185) rfl rfl (Nat.le_of_ble_eq_true rfl) ?_
  have hK : pj_kpt kc_185_s13 G0 G0 := pj_kpt_r _ _
  show pj_X _ _ G0 0 [(0, .ref 171), (1, .retAddr 13)] [] _
  obtain ⟨y1, hy1⟩ : ∃ z : Int32, z = pj_fi G0 171 17 := ⟨_, rfl⟩
  have ey1 : (pj_fi G0 171 17).toInt = y1.toInt := by rw [hy1]
  have ry1 : (0 : Int) ≤ y1.toInt ∧ y1.toInt ≤ 80 := by rw [hy1]; exact hI.2.1 171 17 (0, 80) rfl
  obtain ⟨y2, hy2⟩ : ∃ z : Int32, z = pj_fi G0 171 18 := ⟨_, rfl⟩
  have ey2 : (pj_fi G0 171 18).toInt = y2.toInt := by rw [hy2]
  have ry2 : (0 : Int) ≤ y2.toInt ∧ y2.toInt ≤ 80 := by rw [hy2]; exact hI.2.1 171 18 (0, 80) rfl
  refine pj_X_of (fun r h => pj_R_to (G0, 2, [(0, .ref 171), (1, .retAddr 13)], [.retAddr 13, .ref 171], 0, 0) 2 3 (fun _ => rfl) h) ?_
  have q3 : (pj_fi G0 171 17).toInt = y1.toInt := by rw [show pj_fi G0 171 17 = y1 from hy1.symm]
  have q4 : (pj_fi G0 171 18).toInt = y2.toInt := by rw [show pj_fi G0 171 18 = y2 from hy2.symm]
  refine pj_X_ca (vs := [.ref 171, .retAddr 13]) rfl (fun _ => rfl) ⟨Nat.le_of_ble_eq_true rfl, Nat.le_of_ble_eq_true rfl, pj_T_rcv hI rfl⟩ ⟨rfl, rfl⟩ (pj_Y_up (by decide) (ct_184_s13 G0 hI)) ?_
  rintro _ _ ⟨y5, rfl, rfl, ry5, ey5⟩
  show pj_X _ _ G0 5 [(0, .ref 171), (1, .retAddr 13)] [.int y5] _
  refine pj_X_of (fun r h => pj_R_to (G0, 8, [(2, .int y5), (0, .ref 171), (1, .retAddr 13)], [.ref 171, .ref 171], 0, 0) 8 4 (fun _ => rfl) h) ?_
  refine pj_X_of (fun r h => pj_T_gi hI rfl rfl h) ?_
  show pj_X _ _ G0 11 [(2, .int y5), (0, .ref 171), (1, .retAddr 13)] [.int (pj_fi G0 171 17), .ref 171] _
  refine pj_X_eqi (show pj_fi G0 171 17 = y1 from hy1.symm) ?_
  refine pj_X_of (fun r h => pj_R_to (G0, 12, [(2, .int y5), (0, .ref 171), (1, .retAddr 13)], [.int y5, .int y1, .ref 171], 0, 0) 12 2 (fun _ => rfl) h) ?_
  cases b6 : pj_c1 .lt y5 0 with
  | true =>
    have ub6 := pj_u0_ltT b6
    refine pj_X_of (fun r h => pj_R_ifT 19 rfl rfl b6 h) ?_
    refine pj_X_of (fun r h => pj_R_to (G0, 20, [(2, .int y5), (0, .ref 171), (1, .retAddr 13)], [.int (Int32.ofInt 0), .int y1, .ref 171], 0, 0) 20 2 (fun _ => rfl) h) ?_
    have q7 : (pj_fi G0 171 17).toInt = y1.toInt := by rw [show pj_fi G0 171 17 = y1 from hy1.symm]
    have q8 : (pj_fi G0 171 18).toInt = y2.toInt := by rw [show pj_fi G0 171 18 = y2 from hy2.symm]
    refine pj_X_ca (vs := [.int (Int32.ofInt 0)]) rfl (fun _ => rfl) ⟨Nat.le_of_ble_eq_true rfl, Nat.le_of_ble_eq_true rfl, rfl⟩ ⟨rfl, rfl⟩ (pj_Y_up (by decide) (ct_172x G0 hI (Int32.ofInt 0) ⟨by omega, by omega⟩)) ?_
    rintro _ _ ⟨y9, rfl, rfl, ry9, ey9, fy9⟩
    show pj_X _ _ G0 23 [(2, .int y5), (0, .ref 171), (1, .retAddr 13)] [.int y9, .int y1, .ref 171] _
    refine pj_X_of (fun r h => pj_R_to (G0, 24, [(2, .int y5), (0, .ref 171), (1, .retAddr 13)], [.int (y1 + y9), .ref 171], 0, 0) 24 2 (fun _ => rfl) h) ?_
    obtain ⟨z10, hz10⟩ : ∃ z : Int32, z = y1 + y9 := ⟨_, rfl⟩
    refine pj_X_eqi hz10.symm ?_
    have fz10_0 : z10.toInt = y1.toInt + y9.toInt := by rw [hz10]; exact pj_addI (by have := pj_i32 y1; have := pj_i32 y9; omega) (by have := pj_i32 y1; have := pj_i32 y9; omega)
    refine pj_X_of (fun r h => pj_T_pf hI rfl rfl rfl h) ?_
    show pj_X _ _ (pj_wv G0 171 17 (.int z10)) 27 [(2, .int y5), (0, .ref 171), (1, .retAddr 13)] [] _
    obtain ⟨G11, hG11⟩ : ∃ H, H = pj_wv G0 171 17 (.int z10) := ⟨_, rfl⟩
    have iG11 : pj_Inv G11 := by rw [hG11]; exact pj_Inv_wi hI (ci := 12) rfl (fun q hq => by cases hq; exact ⟨by show (0 : Int) ≤ _; omega, by show _ ≤ (80 : Int); omega⟩)
    have kG11 : pj_kpt kc_185_s13 G0 G11 := by rw [hG11]; exact pj_kpt_v hK rfl
    rw [← hG11]
    refine pj_X_of (fun r h => pj_R_to (G11, 28, [(2, .int y5), (0, .ref 171), (1, .retAddr 13)], [.int y5], 0, 0) 28 2 (fun _ => rfl) h) ?_
    have q12 : (pj_fi G11 171 17).toInt = z10.toInt := by rw [show pj_fi G11 171 17 = z10 from by rw [hG11]; exact pj_fi_wi hI.1 (ci := 12) rfl _]
    have q13 : (pj_fi G11 171 18).toInt = y2.toInt := by rw [show pj_fi G11 171 18 = y2 from by rw [hG11, pj_fi_wv_ne _ _ _ _ _ _ (by decide)]; exact hy2.symm]
    exact pj_X_rt rfl rfl ⟨_, rfl, iG11, kG11, ⟨by omega, by omega⟩, by omega⟩
  | false =>
    have ub6 := pj_u0_ltF b6
    refine pj_X_of (fun r h => pj_R_ifF rfl b6 h) ?_
    refine pj_X_of (fun r h => pj_R_to (G0, 20, [(2, .int y5), (0, .ref 171), (1, .retAddr 13)], [.int (Int32.ofInt 1), .int y1, .ref 171], 0, 0) 20 3 (fun _ => rfl) h) ?_
    have q14 : (pj_fi G0 171 17).toInt = y1.toInt := by rw [show pj_fi G0 171 17 = y1 from hy1.symm]
    have q15 : (pj_fi G0 171 18).toInt = y2.toInt := by rw [show pj_fi G0 171 18 = y2 from hy2.symm]
    refine pj_X_ca (vs := [.int (Int32.ofInt 1)]) rfl (fun _ => rfl) ⟨Nat.le_of_ble_eq_true rfl, Nat.le_of_ble_eq_true rfl, rfl⟩ ⟨rfl, rfl⟩ (pj_Y_up (by decide) (ct_172x G0 hI (Int32.ofInt 1) ⟨by omega, by omega⟩)) ?_
    rintro _ _ ⟨y16, rfl, rfl, ry16, ey16, fy16⟩
    show pj_X _ _ G0 23 [(2, .int y5), (0, .ref 171), (1, .retAddr 13)] [.int y16, .int y1, .ref 171] _
    refine pj_X_of (fun r h => pj_R_to (G0, 24, [(2, .int y5), (0, .ref 171), (1, .retAddr 13)], [.int (y1 + y16), .ref 171], 0, 0) 24 2 (fun _ => rfl) h) ?_
    obtain ⟨z17, hz17⟩ : ∃ z : Int32, z = y1 + y16 := ⟨_, rfl⟩
    refine pj_X_eqi hz17.symm ?_
    have fz17_0 : z17.toInt = y1.toInt + y16.toInt := by rw [hz17]; exact pj_addI (by have := pj_i32 y1; have := pj_i32 y16; omega) (by have := pj_i32 y1; have := pj_i32 y16; omega)
    refine pj_X_of (fun r h => pj_T_pf hI rfl rfl rfl h) ?_
    show pj_X _ _ (pj_wv G0 171 17 (.int z17)) 27 [(2, .int y5), (0, .ref 171), (1, .retAddr 13)] [] _
    obtain ⟨G18, hG18⟩ : ∃ H, H = pj_wv G0 171 17 (.int z17) := ⟨_, rfl⟩
    have iG18 : pj_Inv G18 := by rw [hG18]; exact pj_Inv_wi hI (ci := 12) rfl (fun q hq => by cases hq; exact ⟨by show (0 : Int) ≤ _; omega, by show _ ≤ (80 : Int); omega⟩)
    have kG18 : pj_kpt kc_185_s13 G0 G18 := by rw [hG18]; exact pj_kpt_v hK rfl
    rw [← hG18]
    refine pj_X_of (fun r h => pj_R_to (G18, 28, [(2, .int y5), (0, .ref 171), (1, .retAddr 13)], [.int y5], 0, 0) 28 2 (fun _ => rfl) h) ?_
    have q19 : (pj_fi G18 171 17).toInt = z17.toInt := by rw [show pj_fi G18 171 17 = z17 from by rw [hG18]; exact pj_fi_wi hI.1 (ci := 12) rfl _]
    have q20 : (pj_fi G18 171 18).toInt = y2.toInt := by rw [show pj_fi G18 171 18 = y2 from by rw [hG18, pj_fi_wv_ne _ _ _ _ _ _ (by decide)]; exact hy2.symm]
    exact pj_X_rt rfl rfl ⟨_, rfl, iG18, kG18, ⟨by omega, by omega⟩, by omega⟩
theorem lp_ct_184_s14 (G0 : pj_G) (hI : pj_Inv G0) : ∀ mn : Nat, (∀ (v2 : Int32), ((0 : Int) ≤ v2.toInt ∧ v2.toInt ≤ 2) → 2 - v2.toInt < (mn : Int) → pj_X 14 pj_m184 G0 2 [(0, .ref 171), (1, .retAddr 14), (2, .int v2)] [] (fun v G' => ∃ y : Int32, v = some (.int y) ∧ G0 = G' ∧ ((-1 : Int) ≤ y.toInt ∧ y.toInt ≤ 1) ∧ (0 ≤ y.toInt → (pj_fi G0 171 17).toInt < (pj_fi G0 171 18).toInt))) := by
  have c0_ : (Int32.ofInt (-1)).toInt = -1 := by decide
  have c1_ : (Int32.ofInt 0).toInt = 0 := by decide
  have c2_ : (Int32.ofInt 1).toInt = 1 := by decide
  have hK : pj_kpt ([], [], []) G0 G0 := pj_kpt_r _ _
  intro mn
  induction mn with
  | zero =>
    intro v2 rv2 hm
    exfalso
    omega
  | succ mn ih =>
    intro v2 rv2 hm
    obtain ⟨y1, hy1⟩ : ∃ z : Int32, z = pj_fi G0 171 17 := ⟨_, rfl⟩
    have ey1 : (pj_fi G0 171 17).toInt = y1.toInt := by rw [hy1]
    have ry1 : (0 : Int) ≤ y1.toInt ∧ y1.toInt ≤ 80 := by rw [hy1]; exact hI.2.1 171 17 (0, 80) rfl
    obtain ⟨y2, hy2⟩ : ∃ z : Int32, z = pj_fi G0 171 18 := ⟨_, rfl⟩
    have ey2 : (pj_fi G0 171 18).toInt = y2.toInt := by rw [hy2]
    have ry2 : (0 : Int) ≤ y2.toInt ∧ y2.toInt ≤ 80 := by rw [hy2]; exact hI.2.1 171 18 (0, 80) rfl
    refine pj_X_of (fun r h => pj_R_to (G0, 4, [(0, .ref 171), (1, .retAddr 14), (2, .int v2)], [.retAddr 14, .int v2], 0, 0) 4 3 (fun _ => rfl) h) ?_
    have q3 : (pj_fi G0 171 17).toInt = y1.toInt := by rw [show pj_fi G0 171 17 = y1 from hy1.symm]
    have q4 : (pj_fi G0 171 18).toInt = y2.toInt := by rw [show pj_fi G0 171 18 = y2 from hy2.symm]
    refine pj_X_ca (vs := [.retAddr 14]) rfl (fun _ => rfl) ⟨Nat.le_of_ble_eq_true rfl, Nat.le_of_ble_eq_true rfl, rfl⟩ ⟨rfl, rfl⟩ (pj_Y_up (by decide) (ct_288_s14 G0 hI)) ?_
    rintro _ _ ⟨y5, rfl, rfl, ry5⟩
    show pj_X _ _ G0 7 [(0, .ref 171), (1, .retAddr 14), (2, .int v2)] [.int y5, .int v2] _
    cases b6 : pj_c1 .ge v2 y5 with
    | true =>
      have ub6 := pj_u_geT b6
      refine pj_X_of (fun r h => pj_R_icT 46 rfl rfl b6 h) ?_
      refine pj_X_of (fun r h => pj_R_to (G0, 47, [(0, .ref 171), (1, .retAddr 14), (2, .int v2)], [.int (Int32.ofInt (-1))], 0, 0) 47 2 (fun _ => rfl) h) ?_
      have q7 : (pj_fi G0 171 17).toInt = y1.toInt := by rw [show pj_fi G0 171 17 = y1 from hy1.symm]
      have q8 : (pj_fi G0 171 18).toInt = y2.toInt := by rw [show pj_fi G0 171 18 = y2 from hy2.symm]
      exact pj_X_rt rfl rfl ⟨_, rfl, rfl, ⟨by omega, by omega⟩, by omega⟩
    | false =>
      have ub6 := pj_u_geF b6
      refine pj_X_of (fun r h => pj_R_icF rfl b6 h) ?_
      refine pj_X_of (fun r h => pj_R_to (G0, 11, [(0, .ref 171), (1, .retAddr 14), (2, .int v2)], [.ref 171], 0, 0) 11 2 (fun _ => rfl) h) ?_
      refine pj_X_of (fun r h => pj_T_gi hI rfl rfl h) ?_
      show pj_X _ _ G0 14 [(0, .ref 171), (1, .retAddr 14), (2, .int v2)] [.int (pj_fi G0 171 17)] _
      refine pj_X_eqi (show pj_fi G0 171 17 = y1 from hy1.symm) ?_
      refine pj_X_of (fun r h => pj_R_to (G0, 15, [(0, .ref 171), (1, .retAddr 14), (2, .int v2)], [.ref 171, .int y1], 0, 0) 15 2 (fun _ => rfl) h) ?_
      refine pj_X_of (fun r h => pj_T_gi hI rfl rfl h) ?_
      show pj_X _ _ G0 18 [(0, .ref 171), (1, .retAddr 14), (2, .int v2)] [.int (pj_fi G0 171 18), .int y1] _
      refine pj_X_eqi (show pj_fi G0 171 18 = y2 from hy2.symm) ?_
      cases b9 : pj_c1 .ge y1 y2 with
      | true =>
        have ub9 := pj_u_geT b9
        refine pj_X_of (fun r h => pj_R_icT 46 rfl rfl b9 h) ?_
        refine pj_X_of (fun r h => pj_R_to (G0, 47, [(0, .ref 171), (1, .retAddr 14), (2, .int v2)], [.int (Int32.ofInt (-1))], 0, 0) 47 2 (fun _ => rfl) h) ?_
        have q10 : (pj_fi G0 171 17).toInt = y1.toInt := by rw [show pj_fi G0 171 17 = y1 from hy1.symm]
        have q11 : (pj_fi G0 171 18).toInt = y2.toInt := by rw [show pj_fi G0 171 18 = y2 from hy2.symm]
        exact pj_X_rt rfl rfl ⟨_, rfl, rfl, ⟨by omega, by omega⟩, by omega⟩
      | false =>
        have ub9 := pj_u_geF b9
        refine pj_X_of (fun r h => pj_R_icF rfl b9 h) ?_
        refine pj_X_of (fun r h => pj_R_to (G0, 23, [(0, .ref 171), (1, .retAddr 14), (2, .int v2)], [.int v2, .retAddr 14], 0, 0) 23 3 (fun _ => rfl) h) ?_
        have q12 : (pj_fi G0 171 17).toInt = y1.toInt := by rw [show pj_fi G0 171 17 = y1 from hy1.symm]
        have q13 : (pj_fi G0 171 18).toInt = y2.toInt := by rw [show pj_fi G0 171 18 = y2 from hy2.symm]
        refine pj_X_ca (vs := [.retAddr 14, .int v2]) rfl (fun _ => rfl) ⟨Nat.le_of_ble_eq_true rfl, Nat.le_of_ble_eq_true rfl, rfl⟩ ⟨rfl, rfl⟩ (pj_Y_up (by decide) (ct_289_s14 G0 hI v2 ⟨by omega, by omega⟩)) ?_
        rintro _ _ ⟨y14, rfl, rfl, ry14⟩
        show pj_X _ _ G0 26 [(0, .ref 171), (1, .retAddr 14), (2, .int v2)] [.int y14] _
        refine pj_X_of (fun r h => pj_R_to (G0, 27, [(0, .ref 171), (1, .retAddr 14), (2, .int v2)], [.ref 171, .int y14], 0, 0) 27 2 (fun _ => rfl) h) ?_
        refine pj_X_of (fun r h => pj_T_gr hI rfl rfl rfl h) ?_
        refine pj_X_of (fun r h => pj_R_to (G0, 31, [(0, .ref 171), (1, .retAddr 14), (2, .int v2)], [.ref 171, .ref 180, .int y14], 0, 0) 31 2 (fun _ => rfl) h) ?_
        refine pj_X_of (fun r h => pj_T_gi hI rfl rfl h) ?_
        show pj_X _ _ G0 34 [(0, .ref 171), (1, .retAddr 14), (2, .int v2)] [.int (pj_fi G0 171 17), .ref 180, .int y14] _
        refine pj_X_eqi (show pj_fi G0 171 17 = y1 from hy1.symm) ?_
        refine pj_X_of (fun r h => pj_T_il hI rfl rfl (by omega) (by omega) h) ?_
        show pj_X _ _ G0 35 [(0, .ref 171), (1, .retAddr 14), (2, .int v2)] [.int (pj_ai G0 180 y1.toInt.toNat), .int y14] _
        obtain ⟨z15, hz15⟩ : ∃ z : Int32, z = pj_ai G0 180 y1.toInt.toNat := ⟨_, rfl⟩
        refine pj_X_eqi hz15.symm ?_
        have ez15 : (pj_ai G0 180 y1.toInt.toNat).toInt = z15.toInt := by rw [hz15]
        have fz15_0 : (0 : Int) ≤ z15.toInt ∧ z15.toInt ≤ 255 ∧ (z15.toInt ≤ 0 ∨ 0 ≤ z15.toInt) := by rw [hz15]; exact hI.2.2.1 180 (80, 0, 255, 0, 0) rfl _ (by show _ < 80; omega)
        cases b16 : pj_c1 .ne y14 z15 with
        | true =>
          have ub16 := pj_u_neT b16
          refine pj_X_of (fun r h => pj_R_icT 40 rfl rfl b16 h) ?_
          refine pj_X_of (fun r h => pj_R_to (G0, 43, [(2, .int (v2 + Int32.ofInt 1)), (0, .ref 171), (1, .retAddr 14)], [], 0, 0) 43 2 (fun _ => rfl) h) ?_
          obtain ⟨z17, hz17⟩ : ∃ z : Int32, z = v2 + Int32.ofInt 1 := ⟨_, rfl⟩
          rw [← hz17]
          have fz17_0 : z17.toInt = v2.toInt + (Int32.ofInt 1).toInt := by rw [hz17]; exact pj_addI (by have := pj_i32 v2; have := pj_i32 (Int32.ofInt 1); omega) (by have := pj_i32 v2; have := pj_i32 (Int32.ofInt 1); omega)
          refine pj_X_of (fun r h => pj_R_to (G0, 2, [(2, .int z17), (0, .ref 171), (1, .retAddr 14)], [], 0, 0) 2 2 (fun _ => rfl) h) ?_
          have q18 : (pj_fi G0 171 17).toInt = y1.toInt := by rw [show pj_fi G0 171 17 = y1 from hy1.symm]
          have q19 : (pj_fi G0 171 18).toInt = y2.toInt := by rw [show pj_fi G0 171 18 = y2 from hy2.symm]
          exact pj_X_sub [(0, .ref 171), (1, .retAddr 14), (2, .int z17)] (show List.Nodup [0, 1, 2] by decide) ⟨rfl, rfl, rfl, trivial⟩ (ih z17 ⟨by omega, by omega⟩ (by omega))
        | false =>
          have ub16 := pj_u_neF b16
          refine pj_X_of (fun r h => pj_R_icF rfl b16 h) ?_
          refine pj_X_of (fun r h => pj_R_to (G0, 39, [(0, .ref 171), (1, .retAddr 14), (2, .int v2)], [.int v2], 0, 0) 39 2 (fun _ => rfl) h) ?_
          have q20 : (pj_fi G0 171 17).toInt = y1.toInt := by rw [show pj_fi G0 171 17 = y1 from hy1.symm]
          have q21 : (pj_fi G0 171 18).toInt = y2.toInt := by rw [show pj_fi G0 171 18 = y2 from hy2.symm]
          exact pj_X_rt rfl rfl ⟨_, rfl, rfl, ⟨by omega, by omega⟩, by omega⟩
theorem ct_184_s14 (G0 : pj_G) (hI : pj_Inv G0) : pj_Y 15 184 [.ref 171, .retAddr 14] G0 (fun v G' => ∃ y : Int32, v = some (.int y) ∧ G0 = G' ∧ ((-1 : Int) ≤ y.toInt ∧ y.toInt ≤ 1) ∧ (0 ≤ y.toInt → (pj_fi G0 171 17).toInt < (pj_fi G0 171 18).toInt)) := by
  have c0_ : (Int32.ofInt (-1)).toInt = -1 := by decide
  have c1_ : (Int32.ofInt 0).toInt = 0 := by decide
  have c2_ : (Int32.ofInt 1).toInt = 1 := by decide
  refine pj_Y_X (M := pj_m184) rfl rfl (Nat.le_of_ble_eq_true rfl) ?_
  have hK : pj_kpt ([], [], []) G0 G0 := pj_kpt_r _ _
  show pj_X _ _ G0 0 [(0, .ref 171), (1, .retAddr 14)] [] _
  obtain ⟨y22, hy22⟩ : ∃ z : Int32, z = pj_fi G0 171 17 := ⟨_, rfl⟩
  have ey22 : (pj_fi G0 171 17).toInt = y22.toInt := by rw [hy22]
  have ry22 : (0 : Int) ≤ y22.toInt ∧ y22.toInt ≤ 80 := by rw [hy22]; exact hI.2.1 171 17 (0, 80) rfl
  obtain ⟨y23, hy23⟩ : ∃ z : Int32, z = pj_fi G0 171 18 := ⟨_, rfl⟩
  have ey23 : (pj_fi G0 171 18).toInt = y23.toInt := by rw [hy23]
  have ry23 : (0 : Int) ≤ y23.toInt ∧ y23.toInt ≤ 80 := by rw [hy23]; exact hI.2.1 171 18 (0, 80) rfl
  refine pj_X_of (fun r h => pj_R_to (G0, 2, [(2, .int (Int32.ofInt 0)), (0, .ref 171), (1, .retAddr 14)], [], 0, 0) 2 3 (fun _ => rfl) h) ?_
  have q24 : (pj_fi G0 171 17).toInt = y22.toInt := by rw [show pj_fi G0 171 17 = y22 from hy22.symm]
  have q25 : (pj_fi G0 171 18).toInt = y23.toInt := by rw [show pj_fi G0 171 18 = y23 from hy23.symm]
  exact pj_X_sub [(0, .ref 171), (1, .retAddr 14), (2, .int (Int32.ofInt 0))] (show List.Nodup [0, 1, 2] by decide) ⟨rfl, rfl, rfl, trivial⟩ ((lp_ct_184_s14 G0 hI   3) (Int32.ofInt 0) ⟨by omega, by omega⟩ (by omega))
def kc_185_s14 : pj_KT := ([(171, 17)], [171], [])
theorem ct_185_s14 (G0 : pj_G) (hI : pj_Inv G0) : pj_Y 16 185 [.ref 171, .retAddr 14] G0 (fun v G' => ∃ y : Int32, v = some (.int y) ∧ pj_Inv G' ∧ pj_kpt kc_185_s14 G0 G' ∧ ((-1 : Int) ≤ y.toInt ∧ y.toInt ≤ 1) ∧ ((0 ≤ y.toInt → (pj_fi G' 171 17).toInt = (pj_fi G0 171 17).toInt + 1 ∧ (pj_fi G0 171 17).toInt < (pj_fi G0 171 18).toInt) ∧ (y.toInt < 0 → (pj_fi G' 171 17).toInt = (pj_fi G0 171 17).toInt))) := by
  have c0_ : (Int32.ofInt 0).toInt = 0 := by decide
  have c1_ : (Int32.ofInt 1).toInt = 1 := by decide
  refine pj_Y_X (M := pj_m185) rfl rfl (Nat.le_of_ble_eq_true rfl) ?_
  have hK : pj_kpt kc_185_s14 G0 G0 := pj_kpt_r _ _
  show pj_X _ _ G0 0 [(0, .ref 171), (1, .retAddr 14)] [] _
  obtain ⟨y1, hy1⟩ : ∃ z : Int32, z = pj_fi G0 171 17 := ⟨_, rfl⟩
  have ey1 : (pj_fi G0 171 17).toInt = y1.toInt := by rw [hy1]
  have ry1 : (0 : Int) ≤ y1.toInt ∧ y1.toInt ≤ 80 := by rw [hy1]; exact hI.2.1 171 17 (0, 80) rfl
  obtain ⟨y2, hy2⟩ : ∃ z : Int32, z = pj_fi G0 171 18 := ⟨_, rfl⟩
  have ey2 : (pj_fi G0 171 18).toInt = y2.toInt := by rw [hy2]
  have ry2 : (0 : Int) ≤ y2.toInt ∧ y2.toInt ≤ 80 := by rw [hy2]; exact hI.2.1 171 18 (0, 80) rfl
  refine pj_X_of (fun r h => pj_R_to (G0, 2, [(0, .ref 171), (1, .retAddr 14)], [.retAddr 14, .ref 171], 0, 0) 2 3 (fun _ => rfl) h) ?_
  have q3 : (pj_fi G0 171 17).toInt = y1.toInt := by rw [show pj_fi G0 171 17 = y1 from hy1.symm]
  have q4 : (pj_fi G0 171 18).toInt = y2.toInt := by rw [show pj_fi G0 171 18 = y2 from hy2.symm]
  refine pj_X_ca (vs := [.ref 171, .retAddr 14]) rfl (fun _ => rfl) ⟨Nat.le_of_ble_eq_true rfl, Nat.le_of_ble_eq_true rfl, pj_T_rcv hI rfl⟩ ⟨rfl, rfl⟩ (pj_Y_up (by decide) (ct_184_s14 G0 hI)) ?_
  rintro _ _ ⟨y5, rfl, rfl, ry5, ey5⟩
  show pj_X _ _ G0 5 [(0, .ref 171), (1, .retAddr 14)] [.int y5] _
  refine pj_X_of (fun r h => pj_R_to (G0, 8, [(2, .int y5), (0, .ref 171), (1, .retAddr 14)], [.ref 171, .ref 171], 0, 0) 8 4 (fun _ => rfl) h) ?_
  refine pj_X_of (fun r h => pj_T_gi hI rfl rfl h) ?_
  show pj_X _ _ G0 11 [(2, .int y5), (0, .ref 171), (1, .retAddr 14)] [.int (pj_fi G0 171 17), .ref 171] _
  refine pj_X_eqi (show pj_fi G0 171 17 = y1 from hy1.symm) ?_
  refine pj_X_of (fun r h => pj_R_to (G0, 12, [(2, .int y5), (0, .ref 171), (1, .retAddr 14)], [.int y5, .int y1, .ref 171], 0, 0) 12 2 (fun _ => rfl) h) ?_
  cases b6 : pj_c1 .lt y5 0 with
  | true =>
    have ub6 := pj_u0_ltT b6
    refine pj_X_of (fun r h => pj_R_ifT 19 rfl rfl b6 h) ?_
    refine pj_X_of (fun r h => pj_R_to (G0, 20, [(2, .int y5), (0, .ref 171), (1, .retAddr 14)], [.int (Int32.ofInt 0), .int y1, .ref 171], 0, 0) 20 2 (fun _ => rfl) h) ?_
    have q7 : (pj_fi G0 171 17).toInt = y1.toInt := by rw [show pj_fi G0 171 17 = y1 from hy1.symm]
    have q8 : (pj_fi G0 171 18).toInt = y2.toInt := by rw [show pj_fi G0 171 18 = y2 from hy2.symm]
    refine pj_X_ca (vs := [.int (Int32.ofInt 0)]) rfl (fun _ => rfl) ⟨Nat.le_of_ble_eq_true rfl, Nat.le_of_ble_eq_true rfl, rfl⟩ ⟨rfl, rfl⟩ (pj_Y_up (by decide) (ct_172x G0 hI (Int32.ofInt 0) ⟨by omega, by omega⟩)) ?_
    rintro _ _ ⟨y9, rfl, rfl, ry9, ey9, fy9⟩
    show pj_X _ _ G0 23 [(2, .int y5), (0, .ref 171), (1, .retAddr 14)] [.int y9, .int y1, .ref 171] _
    refine pj_X_of (fun r h => pj_R_to (G0, 24, [(2, .int y5), (0, .ref 171), (1, .retAddr 14)], [.int (y1 + y9), .ref 171], 0, 0) 24 2 (fun _ => rfl) h) ?_
    obtain ⟨z10, hz10⟩ : ∃ z : Int32, z = y1 + y9 := ⟨_, rfl⟩
    refine pj_X_eqi hz10.symm ?_
    have fz10_0 : z10.toInt = y1.toInt + y9.toInt := by rw [hz10]; exact pj_addI (by have := pj_i32 y1; have := pj_i32 y9; omega) (by have := pj_i32 y1; have := pj_i32 y9; omega)
    refine pj_X_of (fun r h => pj_T_pf hI rfl rfl rfl h) ?_
    show pj_X _ _ (pj_wv G0 171 17 (.int z10)) 27 [(2, .int y5), (0, .ref 171), (1, .retAddr 14)] [] _
    obtain ⟨G11, hG11⟩ : ∃ H, H = pj_wv G0 171 17 (.int z10) := ⟨_, rfl⟩
    have iG11 : pj_Inv G11 := by rw [hG11]; exact pj_Inv_wi hI (ci := 12) rfl (fun q hq => by cases hq; exact ⟨by show (0 : Int) ≤ _; omega, by show _ ≤ (80 : Int); omega⟩)
    have kG11 : pj_kpt kc_185_s14 G0 G11 := by rw [hG11]; exact pj_kpt_v hK rfl
    rw [← hG11]
    refine pj_X_of (fun r h => pj_R_to (G11, 28, [(2, .int y5), (0, .ref 171), (1, .retAddr 14)], [.int y5], 0, 0) 28 2 (fun _ => rfl) h) ?_
    have q12 : (pj_fi G11 171 17).toInt = z10.toInt := by rw [show pj_fi G11 171 17 = z10 from by rw [hG11]; exact pj_fi_wi hI.1 (ci := 12) rfl _]
    have q13 : (pj_fi G11 171 18).toInt = y2.toInt := by rw [show pj_fi G11 171 18 = y2 from by rw [hG11, pj_fi_wv_ne _ _ _ _ _ _ (by decide)]; exact hy2.symm]
    exact pj_X_rt rfl rfl ⟨_, rfl, iG11, kG11, ⟨by omega, by omega⟩, by omega⟩
  | false =>
    have ub6 := pj_u0_ltF b6
    refine pj_X_of (fun r h => pj_R_ifF rfl b6 h) ?_
    refine pj_X_of (fun r h => pj_R_to (G0, 20, [(2, .int y5), (0, .ref 171), (1, .retAddr 14)], [.int (Int32.ofInt 1), .int y1, .ref 171], 0, 0) 20 3 (fun _ => rfl) h) ?_
    have q14 : (pj_fi G0 171 17).toInt = y1.toInt := by rw [show pj_fi G0 171 17 = y1 from hy1.symm]
    have q15 : (pj_fi G0 171 18).toInt = y2.toInt := by rw [show pj_fi G0 171 18 = y2 from hy2.symm]
    refine pj_X_ca (vs := [.int (Int32.ofInt 1)]) rfl (fun _ => rfl) ⟨Nat.le_of_ble_eq_true rfl, Nat.le_of_ble_eq_true rfl, rfl⟩ ⟨rfl, rfl⟩ (pj_Y_up (by decide) (ct_172x G0 hI (Int32.ofInt 1) ⟨by omega, by omega⟩)) ?_
    rintro _ _ ⟨y16, rfl, rfl, ry16, ey16, fy16⟩
    show pj_X _ _ G0 23 [(2, .int y5), (0, .ref 171), (1, .retAddr 14)] [.int y16, .int y1, .ref 171] _
    refine pj_X_of (fun r h => pj_R_to (G0, 24, [(2, .int y5), (0, .ref 171), (1, .retAddr 14)], [.int (y1 + y16), .ref 171], 0, 0) 24 2 (fun _ => rfl) h) ?_
    obtain ⟨z17, hz17⟩ : ∃ z : Int32, z = y1 + y16 := ⟨_, rfl⟩
    refine pj_X_eqi hz17.symm ?_
    have fz17_0 : z17.toInt = y1.toInt + y16.toInt := by rw [hz17]; exact pj_addI (by have := pj_i32 y1; have := pj_i32 y16; omega) (by have := pj_i32 y1; have := pj_i32 y16; omega)
    refine pj_X_of (fun r h => pj_T_pf hI rfl rfl rfl h) ?_
    show pj_X _ _ (pj_wv G0 171 17 (.int z17)) 27 [(2, .int y5), (0, .ref 171), (1, .retAddr 14)] [] _
    obtain ⟨G18, hG18⟩ : ∃ H, H = pj_wv G0 171 17 (.int z17) := ⟨_, rfl⟩
    have iG18 : pj_Inv G18 := by rw [hG18]; exact pj_Inv_wi hI (ci := 12) rfl (fun q hq => by cases hq; exact ⟨by show (0 : Int) ≤ _; omega, by show _ ≤ (80 : Int); omega⟩)
    have kG18 : pj_kpt kc_185_s14 G0 G18 := by rw [hG18]; exact pj_kpt_v hK rfl
    rw [← hG18]
    refine pj_X_of (fun r h => pj_R_to (G18, 28, [(2, .int y5), (0, .ref 171), (1, .retAddr 14)], [.int y5], 0, 0) 28 2 (fun _ => rfl) h) ?_
    have q19 : (pj_fi G18 171 17).toInt = z17.toInt := by rw [show pj_fi G18 171 17 = z17 from by rw [hG18]; exact pj_fi_wi hI.1 (ci := 12) rfl _]
    have q20 : (pj_fi G18 171 18).toInt = y2.toInt := by rw [show pj_fi G18 171 18 = y2 from by rw [hG18, pj_fi_wv_ne _ _ _ _ _ _ (by decide)]; exact hy2.symm]
    exact pj_X_rt rfl rfl ⟨_, rfl, iG18, kG18, ⟨by omega, by omega⟩, by omega⟩
theorem lp_ct_184_s15 (G0 : pj_G) (hI : pj_Inv G0) : ∀ mn : Nat, (∀ (v2 : Int32), ((0 : Int) ≤ v2.toInt ∧ v2.toInt ≤ 4) → 4 - v2.toInt < (mn : Int) → pj_X 14 pj_m184 G0 2 [(0, .ref 171), (1, .retAddr 15), (2, .int v2)] [] (fun v G' => ∃ y : Int32, v = some (.int y) ∧ G0 = G' ∧ ((-1 : Int) ≤ y.toInt ∧ y.toInt ≤ 3) ∧ (0 ≤ y.toInt → (pj_fi G0 171 17).toInt < (pj_fi G0 171 18).toInt))) := by
  have c0_ : (Int32.ofInt (-1)).toInt = -1 := by decide
  have c1_ : (Int32.ofInt 0).toInt = 0 := by decide
  have c2_ : (Int32.ofInt 1).toInt = 1 := by decide
  have hK : pj_kpt ([], [], []) G0 G0 := pj_kpt_r _ _
  intro mn
  induction mn with
  | zero =>
    intro v2 rv2 hm
    exfalso
    omega
  | succ mn ih =>
    intro v2 rv2 hm
    obtain ⟨y1, hy1⟩ : ∃ z : Int32, z = pj_fi G0 171 17 := ⟨_, rfl⟩
    have ey1 : (pj_fi G0 171 17).toInt = y1.toInt := by rw [hy1]
    have ry1 : (0 : Int) ≤ y1.toInt ∧ y1.toInt ≤ 80 := by rw [hy1]; exact hI.2.1 171 17 (0, 80) rfl
    obtain ⟨y2, hy2⟩ : ∃ z : Int32, z = pj_fi G0 171 18 := ⟨_, rfl⟩
    have ey2 : (pj_fi G0 171 18).toInt = y2.toInt := by rw [hy2]
    have ry2 : (0 : Int) ≤ y2.toInt ∧ y2.toInt ≤ 80 := by rw [hy2]; exact hI.2.1 171 18 (0, 80) rfl
    refine pj_X_of (fun r h => pj_R_to (G0, 4, [(0, .ref 171), (1, .retAddr 15), (2, .int v2)], [.retAddr 15, .int v2], 0, 0) 4 3 (fun _ => rfl) h) ?_
    have q3 : (pj_fi G0 171 17).toInt = y1.toInt := by rw [show pj_fi G0 171 17 = y1 from hy1.symm]
    have q4 : (pj_fi G0 171 18).toInt = y2.toInt := by rw [show pj_fi G0 171 18 = y2 from hy2.symm]
    refine pj_X_ca (vs := [.retAddr 15]) rfl (fun _ => rfl) ⟨Nat.le_of_ble_eq_true rfl, Nat.le_of_ble_eq_true rfl, rfl⟩ ⟨rfl, rfl⟩ (pj_Y_up (by decide) (ct_288_s15 G0 hI)) ?_
    rintro _ _ ⟨y5, rfl, rfl, ry5⟩
    show pj_X _ _ G0 7 [(0, .ref 171), (1, .retAddr 15), (2, .int v2)] [.int y5, .int v2] _
    cases b6 : pj_c1 .ge v2 y5 with
    | true =>
      have ub6 := pj_u_geT b6
      refine pj_X_of (fun r h => pj_R_icT 46 rfl rfl b6 h) ?_
      refine pj_X_of (fun r h => pj_R_to (G0, 47, [(0, .ref 171), (1, .retAddr 15), (2, .int v2)], [.int (Int32.ofInt (-1))], 0, 0) 47 2 (fun _ => rfl) h) ?_
      have q7 : (pj_fi G0 171 17).toInt = y1.toInt := by rw [show pj_fi G0 171 17 = y1 from hy1.symm]
      have q8 : (pj_fi G0 171 18).toInt = y2.toInt := by rw [show pj_fi G0 171 18 = y2 from hy2.symm]
      exact pj_X_rt rfl rfl ⟨_, rfl, rfl, ⟨by omega, by omega⟩, by omega⟩
    | false =>
      have ub6 := pj_u_geF b6
      refine pj_X_of (fun r h => pj_R_icF rfl b6 h) ?_
      refine pj_X_of (fun r h => pj_R_to (G0, 11, [(0, .ref 171), (1, .retAddr 15), (2, .int v2)], [.ref 171], 0, 0) 11 2 (fun _ => rfl) h) ?_
      refine pj_X_of (fun r h => pj_T_gi hI rfl rfl h) ?_
      show pj_X _ _ G0 14 [(0, .ref 171), (1, .retAddr 15), (2, .int v2)] [.int (pj_fi G0 171 17)] _
      refine pj_X_eqi (show pj_fi G0 171 17 = y1 from hy1.symm) ?_
      refine pj_X_of (fun r h => pj_R_to (G0, 15, [(0, .ref 171), (1, .retAddr 15), (2, .int v2)], [.ref 171, .int y1], 0, 0) 15 2 (fun _ => rfl) h) ?_
      refine pj_X_of (fun r h => pj_T_gi hI rfl rfl h) ?_
      show pj_X _ _ G0 18 [(0, .ref 171), (1, .retAddr 15), (2, .int v2)] [.int (pj_fi G0 171 18), .int y1] _
      refine pj_X_eqi (show pj_fi G0 171 18 = y2 from hy2.symm) ?_
      cases b9 : pj_c1 .ge y1 y2 with
      | true =>
        have ub9 := pj_u_geT b9
        refine pj_X_of (fun r h => pj_R_icT 46 rfl rfl b9 h) ?_
        refine pj_X_of (fun r h => pj_R_to (G0, 47, [(0, .ref 171), (1, .retAddr 15), (2, .int v2)], [.int (Int32.ofInt (-1))], 0, 0) 47 2 (fun _ => rfl) h) ?_
        have q10 : (pj_fi G0 171 17).toInt = y1.toInt := by rw [show pj_fi G0 171 17 = y1 from hy1.symm]
        have q11 : (pj_fi G0 171 18).toInt = y2.toInt := by rw [show pj_fi G0 171 18 = y2 from hy2.symm]
        exact pj_X_rt rfl rfl ⟨_, rfl, rfl, ⟨by omega, by omega⟩, by omega⟩
      | false =>
        have ub9 := pj_u_geF b9
        refine pj_X_of (fun r h => pj_R_icF rfl b9 h) ?_
        refine pj_X_of (fun r h => pj_R_to (G0, 23, [(0, .ref 171), (1, .retAddr 15), (2, .int v2)], [.int v2, .retAddr 15], 0, 0) 23 3 (fun _ => rfl) h) ?_
        have q12 : (pj_fi G0 171 17).toInt = y1.toInt := by rw [show pj_fi G0 171 17 = y1 from hy1.symm]
        have q13 : (pj_fi G0 171 18).toInt = y2.toInt := by rw [show pj_fi G0 171 18 = y2 from hy2.symm]
        refine pj_X_ca (vs := [.retAddr 15, .int v2]) rfl (fun _ => rfl) ⟨Nat.le_of_ble_eq_true rfl, Nat.le_of_ble_eq_true rfl, rfl⟩ ⟨rfl, rfl⟩ (pj_Y_up (by decide) (ct_289_s15 G0 hI v2 ⟨by omega, by omega⟩)) ?_
        rintro _ _ ⟨y14, rfl, rfl, ry14⟩
        show pj_X _ _ G0 26 [(0, .ref 171), (1, .retAddr 15), (2, .int v2)] [.int y14] _
        refine pj_X_of (fun r h => pj_R_to (G0, 27, [(0, .ref 171), (1, .retAddr 15), (2, .int v2)], [.ref 171, .int y14], 0, 0) 27 2 (fun _ => rfl) h) ?_
        refine pj_X_of (fun r h => pj_T_gr hI rfl rfl rfl h) ?_
        refine pj_X_of (fun r h => pj_R_to (G0, 31, [(0, .ref 171), (1, .retAddr 15), (2, .int v2)], [.ref 171, .ref 180, .int y14], 0, 0) 31 2 (fun _ => rfl) h) ?_
        refine pj_X_of (fun r h => pj_T_gi hI rfl rfl h) ?_
        show pj_X _ _ G0 34 [(0, .ref 171), (1, .retAddr 15), (2, .int v2)] [.int (pj_fi G0 171 17), .ref 180, .int y14] _
        refine pj_X_eqi (show pj_fi G0 171 17 = y1 from hy1.symm) ?_
        refine pj_X_of (fun r h => pj_T_il hI rfl rfl (by omega) (by omega) h) ?_
        show pj_X _ _ G0 35 [(0, .ref 171), (1, .retAddr 15), (2, .int v2)] [.int (pj_ai G0 180 y1.toInt.toNat), .int y14] _
        obtain ⟨z15, hz15⟩ : ∃ z : Int32, z = pj_ai G0 180 y1.toInt.toNat := ⟨_, rfl⟩
        refine pj_X_eqi hz15.symm ?_
        have ez15 : (pj_ai G0 180 y1.toInt.toNat).toInt = z15.toInt := by rw [hz15]
        have fz15_0 : (0 : Int) ≤ z15.toInt ∧ z15.toInt ≤ 255 ∧ (z15.toInt ≤ 0 ∨ 0 ≤ z15.toInt) := by rw [hz15]; exact hI.2.2.1 180 (80, 0, 255, 0, 0) rfl _ (by show _ < 80; omega)
        cases b16 : pj_c1 .ne y14 z15 with
        | true =>
          have ub16 := pj_u_neT b16
          refine pj_X_of (fun r h => pj_R_icT 40 rfl rfl b16 h) ?_
          refine pj_X_of (fun r h => pj_R_to (G0, 43, [(2, .int (v2 + Int32.ofInt 1)), (0, .ref 171), (1, .retAddr 15)], [], 0, 0) 43 2 (fun _ => rfl) h) ?_
          obtain ⟨z17, hz17⟩ : ∃ z : Int32, z = v2 + Int32.ofInt 1 := ⟨_, rfl⟩
          rw [← hz17]
          have fz17_0 : z17.toInt = v2.toInt + (Int32.ofInt 1).toInt := by rw [hz17]; exact pj_addI (by have := pj_i32 v2; have := pj_i32 (Int32.ofInt 1); omega) (by have := pj_i32 v2; have := pj_i32 (Int32.ofInt 1); omega)
          refine pj_X_of (fun r h => pj_R_to (G0, 2, [(2, .int z17), (0, .ref 171), (1, .retAddr 15)], [], 0, 0) 2 2 (fun _ => rfl) h) ?_
          have q18 : (pj_fi G0 171 17).toInt = y1.toInt := by rw [show pj_fi G0 171 17 = y1 from hy1.symm]
          have q19 : (pj_fi G0 171 18).toInt = y2.toInt := by rw [show pj_fi G0 171 18 = y2 from hy2.symm]
          exact pj_X_sub [(0, .ref 171), (1, .retAddr 15), (2, .int z17)] (show List.Nodup [0, 1, 2] by decide) ⟨rfl, rfl, rfl, trivial⟩ (ih z17 ⟨by omega, by omega⟩ (by omega))
        | false =>
          have ub16 := pj_u_neF b16
          refine pj_X_of (fun r h => pj_R_icF rfl b16 h) ?_
          refine pj_X_of (fun r h => pj_R_to (G0, 39, [(0, .ref 171), (1, .retAddr 15), (2, .int v2)], [.int v2], 0, 0) 39 2 (fun _ => rfl) h) ?_
          have q20 : (pj_fi G0 171 17).toInt = y1.toInt := by rw [show pj_fi G0 171 17 = y1 from hy1.symm]
          have q21 : (pj_fi G0 171 18).toInt = y2.toInt := by rw [show pj_fi G0 171 18 = y2 from hy2.symm]
          exact pj_X_rt rfl rfl ⟨_, rfl, rfl, ⟨by omega, by omega⟩, by omega⟩
theorem ct_184_s15 (G0 : pj_G) (hI : pj_Inv G0) : pj_Y 15 184 [.ref 171, .retAddr 15] G0 (fun v G' => ∃ y : Int32, v = some (.int y) ∧ G0 = G' ∧ ((-1 : Int) ≤ y.toInt ∧ y.toInt ≤ 3) ∧ (0 ≤ y.toInt → (pj_fi G0 171 17).toInt < (pj_fi G0 171 18).toInt)) := by
  have c0_ : (Int32.ofInt (-1)).toInt = -1 := by decide
  have c1_ : (Int32.ofInt 0).toInt = 0 := by decide
  have c2_ : (Int32.ofInt 1).toInt = 1 := by decide
  refine pj_Y_X (M := pj_m184) rfl rfl (Nat.le_of_ble_eq_true rfl) ?_
  have hK : pj_kpt ([], [], []) G0 G0 := pj_kpt_r _ _
  show pj_X _ _ G0 0 [(0, .ref 171), (1, .retAddr 15)] [] _
  obtain ⟨y22, hy22⟩ : ∃ z : Int32, z = pj_fi G0 171 17 := ⟨_, rfl⟩
  have ey22 : (pj_fi G0 171 17).toInt = y22.toInt := by rw [hy22]
  have ry22 : (0 : Int) ≤ y22.toInt ∧ y22.toInt ≤ 80 := by rw [hy22]; exact hI.2.1 171 17 (0, 80) rfl
  obtain ⟨y23, hy23⟩ : ∃ z : Int32, z = pj_fi G0 171 18 := ⟨_, rfl⟩
  have ey23 : (pj_fi G0 171 18).toInt = y23.toInt := by rw [hy23]
  have ry23 : (0 : Int) ≤ y23.toInt ∧ y23.toInt ≤ 80 := by rw [hy23]; exact hI.2.1 171 18 (0, 80) rfl
  refine pj_X_of (fun r h => pj_R_to (G0, 2, [(2, .int (Int32.ofInt 0)), (0, .ref 171), (1, .retAddr 15)], [], 0, 0) 2 3 (fun _ => rfl) h) ?_
  have q24 : (pj_fi G0 171 17).toInt = y22.toInt := by rw [show pj_fi G0 171 17 = y22 from hy22.symm]
  have q25 : (pj_fi G0 171 18).toInt = y23.toInt := by rw [show pj_fi G0 171 18 = y23 from hy23.symm]
  exact pj_X_sub [(0, .ref 171), (1, .retAddr 15), (2, .int (Int32.ofInt 0))] (show List.Nodup [0, 1, 2] by decide) ⟨rfl, rfl, rfl, trivial⟩ ((lp_ct_184_s15 G0 hI   5) (Int32.ofInt 0) ⟨by omega, by omega⟩ (by omega))
def kc_185_s15 : pj_KT := ([(171, 17)], [171], [])
theorem ct_185_s15 (G0 : pj_G) (hI : pj_Inv G0) : pj_Y 16 185 [.ref 171, .retAddr 15] G0 (fun v G' => ∃ y : Int32, v = some (.int y) ∧ pj_Inv G' ∧ pj_kpt kc_185_s15 G0 G' ∧ ((-1 : Int) ≤ y.toInt ∧ y.toInt ≤ 3) ∧ ((0 ≤ y.toInt → (pj_fi G' 171 17).toInt = (pj_fi G0 171 17).toInt + 1 ∧ (pj_fi G0 171 17).toInt < (pj_fi G0 171 18).toInt) ∧ (y.toInt < 0 → (pj_fi G' 171 17).toInt = (pj_fi G0 171 17).toInt))) := by
  have c0_ : (Int32.ofInt 0).toInt = 0 := by decide
  have c1_ : (Int32.ofInt 1).toInt = 1 := by decide
  refine pj_Y_X (M := pj_m185) rfl rfl (Nat.le_of_ble_eq_true rfl) ?_
  have hK : pj_kpt kc_185_s15 G0 G0 := pj_kpt_r _ _
  show pj_X _ _ G0 0 [(0, .ref 171), (1, .retAddr 15)] [] _
  obtain ⟨y1, hy1⟩ : ∃ z : Int32, z = pj_fi G0 171 17 := ⟨_, rfl⟩
  have ey1 : (pj_fi G0 171 17).toInt = y1.toInt := by rw [hy1]
  have ry1 : (0 : Int) ≤ y1.toInt ∧ y1.toInt ≤ 80 := by rw [hy1]; exact hI.2.1 171 17 (0, 80) rfl
  obtain ⟨y2, hy2⟩ : ∃ z : Int32, z = pj_fi G0 171 18 := ⟨_, rfl⟩
  have ey2 : (pj_fi G0 171 18).toInt = y2.toInt := by rw [hy2]
  have ry2 : (0 : Int) ≤ y2.toInt ∧ y2.toInt ≤ 80 := by rw [hy2]; exact hI.2.1 171 18 (0, 80) rfl
  refine pj_X_of (fun r h => pj_R_to (G0, 2, [(0, .ref 171), (1, .retAddr 15)], [.retAddr 15, .ref 171], 0, 0) 2 3 (fun _ => rfl) h) ?_
  have q3 : (pj_fi G0 171 17).toInt = y1.toInt := by rw [show pj_fi G0 171 17 = y1 from hy1.symm]
  have q4 : (pj_fi G0 171 18).toInt = y2.toInt := by rw [show pj_fi G0 171 18 = y2 from hy2.symm]
  refine pj_X_ca (vs := [.ref 171, .retAddr 15]) rfl (fun _ => rfl) ⟨Nat.le_of_ble_eq_true rfl, Nat.le_of_ble_eq_true rfl, pj_T_rcv hI rfl⟩ ⟨rfl, rfl⟩ (pj_Y_up (by decide) (ct_184_s15 G0 hI)) ?_
  rintro _ _ ⟨y5, rfl, rfl, ry5, ey5⟩
  show pj_X _ _ G0 5 [(0, .ref 171), (1, .retAddr 15)] [.int y5] _
  refine pj_X_of (fun r h => pj_R_to (G0, 8, [(2, .int y5), (0, .ref 171), (1, .retAddr 15)], [.ref 171, .ref 171], 0, 0) 8 4 (fun _ => rfl) h) ?_
  refine pj_X_of (fun r h => pj_T_gi hI rfl rfl h) ?_
  show pj_X _ _ G0 11 [(2, .int y5), (0, .ref 171), (1, .retAddr 15)] [.int (pj_fi G0 171 17), .ref 171] _
  refine pj_X_eqi (show pj_fi G0 171 17 = y1 from hy1.symm) ?_
  refine pj_X_of (fun r h => pj_R_to (G0, 12, [(2, .int y5), (0, .ref 171), (1, .retAddr 15)], [.int y5, .int y1, .ref 171], 0, 0) 12 2 (fun _ => rfl) h) ?_
  cases b6 : pj_c1 .lt y5 0 with
  | true =>
    have ub6 := pj_u0_ltT b6
    refine pj_X_of (fun r h => pj_R_ifT 19 rfl rfl b6 h) ?_
    refine pj_X_of (fun r h => pj_R_to (G0, 20, [(2, .int y5), (0, .ref 171), (1, .retAddr 15)], [.int (Int32.ofInt 0), .int y1, .ref 171], 0, 0) 20 2 (fun _ => rfl) h) ?_
    have q7 : (pj_fi G0 171 17).toInt = y1.toInt := by rw [show pj_fi G0 171 17 = y1 from hy1.symm]
    have q8 : (pj_fi G0 171 18).toInt = y2.toInt := by rw [show pj_fi G0 171 18 = y2 from hy2.symm]
    refine pj_X_ca (vs := [.int (Int32.ofInt 0)]) rfl (fun _ => rfl) ⟨Nat.le_of_ble_eq_true rfl, Nat.le_of_ble_eq_true rfl, rfl⟩ ⟨rfl, rfl⟩ (pj_Y_up (by decide) (ct_172x G0 hI (Int32.ofInt 0) ⟨by omega, by omega⟩)) ?_
    rintro _ _ ⟨y9, rfl, rfl, ry9, ey9, fy9⟩
    show pj_X _ _ G0 23 [(2, .int y5), (0, .ref 171), (1, .retAddr 15)] [.int y9, .int y1, .ref 171] _
    refine pj_X_of (fun r h => pj_R_to (G0, 24, [(2, .int y5), (0, .ref 171), (1, .retAddr 15)], [.int (y1 + y9), .ref 171], 0, 0) 24 2 (fun _ => rfl) h) ?_
    obtain ⟨z10, hz10⟩ : ∃ z : Int32, z = y1 + y9 := ⟨_, rfl⟩
    refine pj_X_eqi hz10.symm ?_
    have fz10_0 : z10.toInt = y1.toInt + y9.toInt := by rw [hz10]; exact pj_addI (by have := pj_i32 y1; have := pj_i32 y9; omega) (by have := pj_i32 y1; have := pj_i32 y9; omega)
    refine pj_X_of (fun r h => pj_T_pf hI rfl rfl rfl h) ?_
    show pj_X _ _ (pj_wv G0 171 17 (.int z10)) 27 [(2, .int y5), (0, .ref 171), (1, .retAddr 15)] [] _
    obtain ⟨G11, hG11⟩ : ∃ H, H = pj_wv G0 171 17 (.int z10) := ⟨_, rfl⟩
    have iG11 : pj_Inv G11 := by rw [hG11]; exact pj_Inv_wi hI (ci := 12) rfl (fun q hq => by cases hq; exact ⟨by show (0 : Int) ≤ _; omega, by show _ ≤ (80 : Int); omega⟩)
    have kG11 : pj_kpt kc_185_s15 G0 G11 := by rw [hG11]; exact pj_kpt_v hK rfl
    rw [← hG11]
    refine pj_X_of (fun r h => pj_R_to (G11, 28, [(2, .int y5), (0, .ref 171), (1, .retAddr 15)], [.int y5], 0, 0) 28 2 (fun _ => rfl) h) ?_
    have q12 : (pj_fi G11 171 17).toInt = z10.toInt := by rw [show pj_fi G11 171 17 = z10 from by rw [hG11]; exact pj_fi_wi hI.1 (ci := 12) rfl _]
    have q13 : (pj_fi G11 171 18).toInt = y2.toInt := by rw [show pj_fi G11 171 18 = y2 from by rw [hG11, pj_fi_wv_ne _ _ _ _ _ _ (by decide)]; exact hy2.symm]
    exact pj_X_rt rfl rfl ⟨_, rfl, iG11, kG11, ⟨by omega, by omega⟩, by omega⟩
  | false =>
    have ub6 := pj_u0_ltF b6
    refine pj_X_of (fun r h => pj_R_ifF rfl b6 h) ?_
    refine pj_X_of (fun r h => pj_R_to (G0, 20, [(2, .int y5), (0, .ref 171), (1, .retAddr 15)], [.int (Int32.ofInt 1), .int y1, .ref 171], 0, 0) 20 3 (fun _ => rfl) h) ?_
    have q14 : (pj_fi G0 171 17).toInt = y1.toInt := by rw [show pj_fi G0 171 17 = y1 from hy1.symm]
    have q15 : (pj_fi G0 171 18).toInt = y2.toInt := by rw [show pj_fi G0 171 18 = y2 from hy2.symm]
    refine pj_X_ca (vs := [.int (Int32.ofInt 1)]) rfl (fun _ => rfl) ⟨Nat.le_of_ble_eq_true rfl, Nat.le_of_ble_eq_true rfl, rfl⟩ ⟨rfl, rfl⟩ (pj_Y_up (by decide) (ct_172x G0 hI (Int32.ofInt 1) ⟨by omega, by omega⟩)) ?_
    rintro _ _ ⟨y16, rfl, rfl, ry16, ey16, fy16⟩
    show pj_X _ _ G0 23 [(2, .int y5), (0, .ref 171), (1, .retAddr 15)] [.int y16, .int y1, .ref 171] _
    refine pj_X_of (fun r h => pj_R_to (G0, 24, [(2, .int y5), (0, .ref 171), (1, .retAddr 15)], [.int (y1 + y16), .ref 171], 0, 0) 24 2 (fun _ => rfl) h) ?_
    obtain ⟨z17, hz17⟩ : ∃ z : Int32, z = y1 + y16 := ⟨_, rfl⟩
    refine pj_X_eqi hz17.symm ?_
    have fz17_0 : z17.toInt = y1.toInt + y16.toInt := by rw [hz17]; exact pj_addI (by have := pj_i32 y1; have := pj_i32 y16; omega) (by have := pj_i32 y1; have := pj_i32 y16; omega)
    refine pj_X_of (fun r h => pj_T_pf hI rfl rfl rfl h) ?_
    show pj_X _ _ (pj_wv G0 171 17 (.int z17)) 27 [(2, .int y5), (0, .ref 171), (1, .retAddr 15)] [] _
    obtain ⟨G18, hG18⟩ : ∃ H, H = pj_wv G0 171 17 (.int z17) := ⟨_, rfl⟩
    have iG18 : pj_Inv G18 := by rw [hG18]; exact pj_Inv_wi hI (ci := 12) rfl (fun q hq => by cases hq; exact ⟨by show (0 : Int) ≤ _; omega, by show _ ≤ (80 : Int); omega⟩)
    have kG18 : pj_kpt kc_185_s15 G0 G18 := by rw [hG18]; exact pj_kpt_v hK rfl
    rw [← hG18]
    refine pj_X_of (fun r h => pj_R_to (G18, 28, [(2, .int y5), (0, .ref 171), (1, .retAddr 15)], [.int y5], 0, 0) 28 2 (fun _ => rfl) h) ?_
    have q19 : (pj_fi G18 171 17).toInt = z17.toInt := by rw [show pj_fi G18 171 17 = z17 from by rw [hG18]; exact pj_fi_wi hI.1 (ci := 12) rfl _]
    have q20 : (pj_fi G18 171 18).toInt = y2.toInt := by rw [show pj_fi G18 171 18 = y2 from by rw [hG18, pj_fi_wv_ne _ _ _ _ _ _ (by decide)]; exact hy2.symm]
    exact pj_X_rt rfl rfl ⟨_, rfl, iG18, kG18, ⟨by omega, by omega⟩, by omega⟩
def kc_186 : pj_KT := ([(171, 17)], [171], [])
theorem lp_ct_186 (G0 : pj_G) (hI0 : pj_Inv G0) (dg : Int32) (rdg : (1 : Int) ≤ dg.toInt ∧ dg.toInt ≤ 3) : ∀ mn : Nat, (∀ (G : pj_G) (hI : pj_Inv G) (hK : pj_kpt kc_186 G0 G) (v2 : Int32) (v3 : Int32), ((0 : Int) ≤ v2.toInt ∧ v2.toInt ≤ 999) → ((0 : Int) ≤ v3.toInt ∧ v3.toInt ≤ 3) → (v3.toInt = 0 → v2.toInt = 0) → (v3.toInt = 1 → v2.toInt ≤ 9) → (v3.toInt = 2 → v2.toInt ≤ 99) → (v3.toInt ≤ dg.toInt) → ((pj_fi G 171 17).toInt = (pj_fi G0 171 17).toInt + v3.toInt) → (v3.toInt = 0 → ((pj_fi G 171 17).toInt < (pj_fi G 171 18).toInt ∧ 48 ≤ (pj_ai G 180 (pj_fi G 171 17).toInt.toNat).toInt ∧ (pj_ai G 180 (pj_fi G 171 17).toInt.toNat).toInt ≤ 57)) → 3 - v3.toInt < (mn : Int) → pj_X 2 pj_m186 G 13 [(0, .ref 171), (1, .int dg), (2, .int v2), (3, .int v3)] [] (fun v G' => ∃ y : Int32, v = some (.int y) ∧ pj_Inv G' ∧ pj_kpt kc_186 G0 G' ∧ ((-1 : Int) ≤ y.toInt ∧ y.toInt ≤ 999) ∧ ((dg.toInt = 1 → y.toInt ≤ 9) ∧ (dg.toInt = 2 → y.toInt ≤ 99) ∧ (pj_fi G0 171 17).toInt ≤ (pj_fi G' 171 17).toInt ∧ (0 ≤ y.toInt → (pj_fi G0 171 17).toInt + 1 ≤ (pj_fi G' 171 17).toInt)))) := by
  have c0_ : ((Int8.ofInt 10).toInt32).toInt = 10 := by decide
  have c1_ : ((Int8.ofInt 48).toInt32).toInt = 48 := by decide
  have c2_ : (Int32.ofInt (-1)).toInt = -1 := by decide
  have c3_ : (Int32.ofInt 0).toInt = 0 := by decide
  have c4_ : (Int32.ofInt 1).toInt = 1 := by decide
  intro mn
  induction mn with
  | zero =>
    intro G hI hK v2 v3 rv2 rv3 x0_ x1_ x2_ x3_ x4_ x5_ hm
    exfalso
    omega
  | succ mn ih =>
    intro G hI hK v2 v3 rv2 rv3 x0_ x1_ x2_ x3_ x4_ x5_ hm
    obtain ⟨y1, hy1⟩ : ∃ z : Int32, z = pj_fi G 171 17 := ⟨_, rfl⟩
    have ey1 : (pj_fi G 171 17).toInt = y1.toInt := by rw [hy1]
    have ry1 : (0 : Int) ≤ y1.toInt ∧ y1.toInt ≤ 80 := by rw [hy1]; exact hI.2.1 171 17 (0, 80) rfl
    obtain ⟨y2, hy2⟩ : ∃ z : Int32, z = pj_fi G 171 18 := ⟨_, rfl⟩
    have ey2 : (pj_fi G 171 18).toInt = y2.toInt := by rw [hy2]
    have ry2 : (0 : Int) ≤ y2.toInt ∧ y2.toInt ≤ 80 := by rw [hy2]; exact hI.2.1 171 18 (0, 80) rfl
    refine pj_X_of (fun r h => pj_R_to (G, 15, [(0, .ref 171), (1, .int dg), (2, .int v2), (3, .int v3)], [.int dg, .int v3], 0, 0) 15 3 (fun _ => rfl) h) ?_
    cases b3 : pj_c1 .ge v3 dg with
    | true =>
      have ub3 := pj_u_geT b3
      refine pj_X_of (fun r h => pj_R_icT 59 rfl rfl b3 h) ?_
      refine pj_X_of (fun r h => pj_R_to (G, 60, [(0, .ref 171), (1, .int dg), (2, .int v2), (3, .int v3)], [.int v2], 0, 0) 60 2 (fun _ => rfl) h) ?_
      have q4 : (pj_fi G 171 17).toInt = y1.toInt := by rw [show pj_fi G 171 17 = y1 from hy1.symm]
      have q5 : (pj_fi G 171 18).toInt = y2.toInt := by rw [show pj_fi G 171 18 = y2 from hy2.symm]
      exact pj_X_rt rfl rfl ⟨_, rfl, hI, hK, ⟨by omega, by omega⟩, by omega⟩
    | false =>
      have ub3 := pj_u_geF b3
      refine pj_X_of (fun r h => pj_R_icF rfl b3 h) ?_
      refine pj_X_of (fun r h => pj_R_to (G, 19, [(0, .ref 171), (1, .int dg), (2, .int v2), (3, .int v3)], [.ref 171], 0, 0) 19 2 (fun _ => rfl) h) ?_
      have q6 : (pj_fi G 171 17).toInt = y1.toInt := by rw [show pj_fi G 171 17 = y1 from hy1.symm]
      have q7 : (pj_fi G 171 18).toInt = y2.toInt := by rw [show pj_fi G 171 18 = y2 from hy2.symm]
      refine pj_X_ca (vs := [.ref 171]) rfl (fun _ => rfl) ⟨Nat.le_of_ble_eq_true rfl, Nat.le_of_ble_eq_true rfl, pj_T_rcv hI rfl⟩ ⟨rfl, rfl⟩ (pj_Y_up (by decide) (ct_183 G hI)) ?_
      rintro _ _ ⟨y8, rfl, rfl, ry8, ey8⟩
      show pj_X _ _ G 22 [(0, .ref 171), (1, .int dg), (2, .int v2), (3, .int v3)] [.int y8] _
      cases b9 : pj_c1 .eq y8 0 with
      | true =>
        have ub9 := pj_u0_eqT b9
        refine pj_X_of (fun r h => pj_R_ifT 59 rfl rfl b9 h) ?_
        refine pj_X_of (fun r h => pj_R_to (G, 60, [(0, .ref 171), (1, .int dg), (2, .int v2), (3, .int v3)], [.int v2], 0, 0) 60 2 (fun _ => rfl) h) ?_
        have q10 : (pj_fi G 171 17).toInt = y1.toInt := by rw [show pj_fi G 171 17 = y1 from hy1.symm]
        have q11 : (pj_fi G 171 18).toInt = y2.toInt := by rw [show pj_fi G 171 18 = y2 from hy2.symm]
        exact pj_X_rt rfl rfl ⟨_, rfl, hI, hK, ⟨by omega, by omega⟩, by omega⟩
      | false =>
        have ub9 := pj_u0_eqF b9
        refine pj_X_of (fun r h => pj_R_ifF rfl b9 h) ?_
        refine pj_X_of (fun r h => pj_R_to (G, 29, [(0, .ref 171), (1, .int dg), (2, .int v2), (3, .int v3)], [.int (((Int8.ofInt 10).toInt32) * v2)], 0, 0) 29 4 (fun _ => rfl) h) ?_
        obtain ⟨z12, hz12⟩ : ∃ z : Int32, z = ((Int8.ofInt 10).toInt32) * v2 := ⟨_, rfl⟩
        refine pj_X_eqi hz12.symm ?_
        have fz12_0 : z12.toInt = 10 * v2.toInt := by rw [hz12]; exact pj_mulL (by decide) (by omega) (by omega)
        refine pj_X_of (fun r h => pj_R_to (G, 30, [(0, .ref 171), (1, .int dg), (2, .int v2), (3, .int v3)], [.ref 171, .int z12], 0, 0) 30 2 (fun _ => rfl) h) ?_
        refine pj_X_of (fun r h => pj_T_gr hI rfl rfl rfl h) ?_
        refine pj_X_of (fun r h => pj_R_to (G, 34, [(0, .ref 171), (1, .int dg), (2, .int v2), (3, .int v3)], [.ref 171, .ref 180, .int z12], 0, 0) 34 2 (fun _ => rfl) h) ?_
        refine pj_X_of (fun r h => pj_T_gi hI rfl rfl h) ?_
        show pj_X _ _ G 37 [(0, .ref 171), (1, .int dg), (2, .int v2), (3, .int v3)] [.int (pj_fi G 171 17), .ref 180, .int z12] _
        refine pj_X_eqi (show pj_fi G 171 17 = y1 from hy1.symm) ?_
        refine pj_X_of (fun r h => pj_T_il hI rfl rfl (by omega) (by omega) h) ?_
        show pj_X _ _ G 38 [(0, .ref 171), (1, .int dg), (2, .int v2), (3, .int v3)] [.int (pj_ai G 180 y1.toInt.toNat), .int z12] _
        obtain ⟨z13, hz13⟩ : ∃ z : Int32, z = pj_ai G 180 y1.toInt.toNat := ⟨_, rfl⟩
        refine pj_X_eqi hz13.symm ?_
        have ez13 : (pj_ai G 180 y1.toInt.toNat).toInt = z13.toInt := by rw [hz13]
        have fz13_0 : (0 : Int) ≤ z13.toInt ∧ z13.toInt ≤ 255 ∧ (z13.toInt ≤ 0 ∨ 0 ≤ z13.toInt) := by rw [hz13]; exact hI.2.2.1 180 (80, 0, 255, 0, 0) rfl _ (by show _ < 80; omega)
        have gz13 : (pj_ai G 180 (pj_fi G 171 17).toInt.toNat).toInt = z13.toInt := by rw [show pj_fi G 171 17 = y1 from hy1.symm, hz13]
        refine pj_X_of (fun r h => pj_R_to (G, 39, [(0, .ref 171), (1, .int dg), (2, .int v2), (3, .int v3)], [.int (z12 + z13)], 0, 0) 39 2 (fun _ => rfl) h) ?_
        obtain ⟨z14, hz14⟩ : ∃ z : Int32, z = z12 + z13 := ⟨_, rfl⟩
        refine pj_X_eqi hz14.symm ?_
        have fz14_0 : z14.toInt = z12.toInt + z13.toInt := by rw [hz14]; exact pj_addI (by have := pj_i32 z12; have := pj_i32 z13; omega) (by have := pj_i32 z12; have := pj_i32 z13; omega)
        refine pj_X_of (fun r h => pj_R_to (G, 42, [(0, .ref 171), (1, .int dg), (2, .int v2), (3, .int v3)], [.int (z14 - ((Int8.ofInt 48).toInt32))], 0, 0) 42 3 (fun _ => rfl) h) ?_
        obtain ⟨z15, hz15⟩ : ∃ z : Int32, z = z14 - ((Int8.ofInt 48).toInt32) := ⟨_, rfl⟩
        refine pj_X_eqi hz15.symm ?_
        have fz15_0 : z15.toInt = z14.toInt - ((Int8.ofInt 48).toInt32).toInt := by rw [hz15]; exact pj_subI (by have := pj_i32 z14; have := pj_i32 ((Int8.ofInt 48).toInt32); omega) (by have := pj_i32 z14; have := pj_i32 ((Int8.ofInt 48).toInt32); omega)
        refine pj_X_of (fun r h => pj_R_to (G, 45, [(2, .int z15), (0, .ref 171), (1, .int dg), (3, .int v3)], [.ref 171, .ref 171], 0, 0) 45 4 (fun _ => rfl) h) ?_
        refine pj_X_of (fun r h => pj_T_gi hI rfl rfl h) ?_
        show pj_X _ _ G 48 [(2, .int z15), (0, .ref 171), (1, .int dg), (3, .int v3)] [.int (pj_fi G 171 17), .ref 171] _
        refine pj_X_eqi (show pj_fi G 171 17 = y1 from hy1.symm) ?_
        refine pj_X_of (fun r h => pj_R_to (G, 50, [(2, .int z15), (0, .ref 171), (1, .int dg), (3, .int v3)], [.int (y1 + (Int32.ofInt 1)), .ref 171], 0, 0) 50 3 (fun _ => rfl) h) ?_
        obtain ⟨z16, hz16⟩ : ∃ z : Int32, z = y1 + (Int32.ofInt 1) := ⟨_, rfl⟩
        refine pj_X_eqi hz16.symm ?_
        have fz16_0 : z16.toInt = y1.toInt + (Int32.ofInt 1).toInt := by rw [hz16]; exact pj_addI (by have := pj_i32 y1; have := pj_i32 (Int32.ofInt 1); omega) (by have := pj_i32 y1; have := pj_i32 (Int32.ofInt 1); omega)
        refine pj_X_of (fun r h => pj_T_pf hI rfl rfl rfl h) ?_
        show pj_X _ _ (pj_wv G 171 17 (.int z16)) 53 [(2, .int z15), (0, .ref 171), (1, .int dg), (3, .int v3)] [] _
        obtain ⟨G17, hG17⟩ : ∃ H, H = pj_wv G 171 17 (.int z16) := ⟨_, rfl⟩
        have iG17 : pj_Inv G17 := by rw [hG17]; exact pj_Inv_wi hI (ci := 12) rfl (fun q hq => by cases hq; exact ⟨by show (0 : Int) ≤ _; omega, by show _ ≤ (80 : Int); omega⟩)
        have kG17 : pj_kpt kc_186 G0 G17 := by rw [hG17]; exact pj_kpt_v hK rfl
        rw [← hG17]
        refine pj_X_of (fun r h => pj_R_to (G17, 56, [(3, .int (v3 + Int32.ofInt 1)), (2, .int z15), (0, .ref 171), (1, .int dg)], [], 0, 0) 56 2 (fun _ => rfl) h) ?_
        obtain ⟨z18, hz18⟩ : ∃ z : Int32, z = v3 + Int32.ofInt 1 := ⟨_, rfl⟩
        rw [← hz18]
        have fz18_0 : z18.toInt = v3.toInt + (Int32.ofInt 1).toInt := by rw [hz18]; exact pj_addI (by have := pj_i32 v3; have := pj_i32 (Int32.ofInt 1); omega) (by have := pj_i32 v3; have := pj_i32 (Int32.ofInt 1); omega)
        refine pj_X_of (fun r h => pj_R_to (G17, 13, [(3, .int z18), (2, .int z15), (0, .ref 171), (1, .int dg)], [], 0, 0) 13 2 (fun _ => rfl) h) ?_
        have q19 : (pj_fi G17 171 17).toInt = z16.toInt := by rw [show pj_fi G17 171 17 = z16 from by rw [hG17]; exact pj_fi_wi hI.1 (ci := 12) rfl _]
        have q20 : (pj_fi G17 171 18).toInt = y2.toInt := by rw [show pj_fi G17 171 18 = y2 from by rw [hG17, pj_fi_wv_ne _ _ _ _ _ _ (by decide)]; exact hy2.symm]
        exact pj_X_sub [(0, .ref 171), (1, .int dg), (2, .int z15), (3, .int z18)] (show List.Nodup [0, 1, 2, 3] by decide) ⟨rfl, rfl, rfl, rfl, trivial⟩ (ih G17 iG17 kG17 z15 z18 ⟨by omega, by omega⟩ ⟨by omega, by omega⟩ (by omega) (by omega) (by omega) (by omega) (by omega) (by omega) (by omega))
theorem ct_186 (G0 : pj_G) (hI : pj_Inv G0) (dg : Int32) (rdg : (1 : Int) ≤ dg.toInt ∧ dg.toInt ≤ 3) : pj_Y 3 186 [.ref 171, .int dg] G0 (fun v G' => ∃ y : Int32, v = some (.int y) ∧ pj_Inv G' ∧ pj_kpt kc_186 G0 G' ∧ ((-1 : Int) ≤ y.toInt ∧ y.toInt ≤ 999) ∧ ((dg.toInt = 1 → y.toInt ≤ 9) ∧ (dg.toInt = 2 → y.toInt ≤ 99) ∧ (pj_fi G0 171 17).toInt ≤ (pj_fi G' 171 17).toInt ∧ (0 ≤ y.toInt → (pj_fi G0 171 17).toInt + 1 ≤ (pj_fi G' 171 17).toInt))) := by
  have c0_ : ((Int8.ofInt 10).toInt32).toInt = 10 := by decide
  have c1_ : ((Int8.ofInt 48).toInt32).toInt = 48 := by decide
  have c2_ : (Int32.ofInt (-1)).toInt = -1 := by decide
  have c3_ : (Int32.ofInt 0).toInt = 0 := by decide
  have c4_ : (Int32.ofInt 1).toInt = 1 := by decide
  refine pj_Y_X (M := pj_m186) rfl rfl (Nat.le_of_ble_eq_true rfl) ?_
  have hK : pj_kpt kc_186 G0 G0 := pj_kpt_r _ _
  show pj_X _ _ G0 0 [(0, .ref 171), (1, .int dg)] [] _
  obtain ⟨y21, hy21⟩ : ∃ z : Int32, z = pj_fi G0 171 17 := ⟨_, rfl⟩
  have ey21 : (pj_fi G0 171 17).toInt = y21.toInt := by rw [hy21]
  have ry21 : (0 : Int) ≤ y21.toInt ∧ y21.toInt ≤ 80 := by rw [hy21]; exact hI.2.1 171 17 (0, 80) rfl
  obtain ⟨y22, hy22⟩ : ∃ z : Int32, z = pj_fi G0 171 18 := ⟨_, rfl⟩
  have ey22 : (pj_fi G0 171 18).toInt = y22.toInt := by rw [hy22]
  have ry22 : (0 : Int) ≤ y22.toInt ∧ y22.toInt ≤ 80 := by rw [hy22]; exact hI.2.1 171 18 (0, 80) rfl
  refine pj_X_of (fun r h => pj_R_to (G0, 1, [(0, .ref 171), (1, .int dg)], [.ref 171], 0, 0) 1 2 (fun _ => rfl) h) ?_
  have q23 : (pj_fi G0 171 17).toInt = y21.toInt := by rw [show pj_fi G0 171 17 = y21 from hy21.symm]
  have q24 : (pj_fi G0 171 18).toInt = y22.toInt := by rw [show pj_fi G0 171 18 = y22 from hy22.symm]
  refine pj_X_ca (vs := [.ref 171]) rfl (fun _ => rfl) ⟨Nat.le_of_ble_eq_true rfl, Nat.le_of_ble_eq_true rfl, pj_T_rcv hI rfl⟩ ⟨rfl, rfl⟩ (pj_Y_up (by decide) (ct_183 G0 hI)) ?_
  rintro _ _ ⟨y25, rfl, rfl, ry25, ey25⟩
  show pj_X _ _ G0 4 [(0, .ref 171), (1, .int dg)] [.int y25] _
  cases b26 : pj_c1 .ne y25 0 with
  | true =>
    have ub26 := pj_u0_neT b26
    refine pj_X_of (fun r h => pj_R_ifT 9 rfl rfl b26 h) ?_
    refine pj_X_of (fun r h => pj_R_to (G0, 13, [(3, .int (Int32.ofInt 0)), (2, .int (Int32.ofInt 0)), (0, .ref 171), (1, .int dg)], [], 0, 0) 13 5 (fun _ => rfl) h) ?_
    have q27 : (pj_fi G0 171 17).toInt = y21.toInt := by rw [show pj_fi G0 171 17 = y21 from hy21.symm]
    have q28 : (pj_fi G0 171 18).toInt = y22.toInt := by rw [show pj_fi G0 171 18 = y22 from hy22.symm]
    exact pj_X_sub [(0, .ref 171), (1, .int dg), (2, .int (Int32.ofInt 0)), (3, .int (Int32.ofInt 0))] (show List.Nodup [0, 1, 2, 3] by decide) ⟨rfl, rfl, rfl, rfl, trivial⟩ ((lp_ct_186 G0 hI dg rdg 4) G0 hI hK (Int32.ofInt 0) (Int32.ofInt 0) ⟨by omega, by omega⟩ ⟨by omega, by omega⟩ (by omega) (by omega) (by omega) (by omega) (by omega) (by omega) (by omega))
  | false =>
    have ub26 := pj_u0_neF b26
    refine pj_X_of (fun r h => pj_R_ifF rfl b26 h) ?_
    refine pj_X_of (fun r h => pj_R_to (G0, 8, [(0, .ref 171), (1, .int dg)], [.int (Int32.ofInt (-1))], 0, 0) 8 2 (fun _ => rfl) h) ?_
    have q29 : (pj_fi G0 171 17).toInt = y21.toInt := by rw [show pj_fi G0 171 17 = y21 from hy21.symm]
    have q30 : (pj_fi G0 171 18).toInt = y22.toInt := by rw [show pj_fi G0 171 18 = y22 from hy22.symm]
    exact pj_X_rt rfl rfl ⟨_, rfl, hI, hK, ⟨by omega, by omega⟩, by omega⟩
def kc_187 : pj_KT := ([(171, 17)], [171], [])
theorem ct_187 (G0 : pj_G) (hI : pj_Inv G0) (many : Int32) (rmany : (0 : Int) ≤ many.toInt ∧ many.toInt ≤ 8) : pj_Y 2 187 [.ref 171, .int many] G0 (fun v G' => ∃ y : Int32, v = some (.int y) ∧ pj_Inv G' ∧ pj_kpt kc_187 G0 G' ∧ ((-1 : Int) ≤ y.toInt ∧ y.toInt ≤ 7) ∧ (y.toInt ≤ many.toInt - 1 ∧ (0 ≤ y.toInt → (pj_fi G' 171 17).toInt = (pj_fi G0 171 17).toInt + 1) ∧ (y.toInt < 0 → (pj_fi G' 171 17).toInt = (pj_fi G0 171 17).toInt))) := by
  have c0_ : ((Int8.ofInt 97).toInt32).toInt = 97 := by decide
  have c1_ : (Int32.ofInt (-1)).toInt = -1 := by decide
  have c2_ : (Int32.ofInt 1).toInt = 1 := by decide
  refine pj_Y_X (M := pj_m187) rfl rfl (Nat.le_of_ble_eq_true rfl) ?_
  have hK : pj_kpt kc_187 G0 G0 := pj_kpt_r _ _
  show pj_X _ _ G0 0 [(0, .ref 171), (1, .int many)] [] _
  obtain ⟨y1, hy1⟩ : ∃ z : Int32, z = pj_fi G0 171 17 := ⟨_, rfl⟩
  have ey1 : (pj_fi G0 171 17).toInt = y1.toInt := by rw [hy1]
  have ry1 : (0 : Int) ≤ y1.toInt ∧ y1.toInt ≤ 80 := by rw [hy1]; exact hI.2.1 171 17 (0, 80) rfl
  obtain ⟨y2, hy2⟩ : ∃ z : Int32, z = pj_fi G0 171 18 := ⟨_, rfl⟩
  have ey2 : (pj_fi G0 171 18).toInt = y2.toInt := by rw [hy2]
  have ry2 : (0 : Int) ≤ y2.toInt ∧ y2.toInt ≤ 80 := by rw [hy2]; exact hI.2.1 171 18 (0, 80) rfl
  refine pj_X_of (fun r h => pj_R_to (G0, 1, [(0, .ref 171), (1, .int many)], [.ref 171], 0, 0) 1 2 (fun _ => rfl) h) ?_
  refine pj_X_of (fun r h => pj_T_gi hI rfl rfl h) ?_
  show pj_X _ _ G0 4 [(0, .ref 171), (1, .int many)] [.int (pj_fi G0 171 17)] _
  refine pj_X_eqi (show pj_fi G0 171 17 = y1 from hy1.symm) ?_
  refine pj_X_of (fun r h => pj_R_to (G0, 5, [(0, .ref 171), (1, .int many)], [.ref 171, .int y1], 0, 0) 5 2 (fun _ => rfl) h) ?_
  refine pj_X_of (fun r h => pj_T_gi hI rfl rfl h) ?_
  show pj_X _ _ G0 8 [(0, .ref 171), (1, .int many)] [.int (pj_fi G0 171 18), .int y1] _
  refine pj_X_eqi (show pj_fi G0 171 18 = y2 from hy2.symm) ?_
  cases b3 : pj_c1 .ge y1 y2 with
  | true =>
    have ub3 := pj_u_geT b3
    refine pj_X_of (fun r h => pj_R_icT 37 rfl rfl b3 h) ?_
    refine pj_X_of (fun r h => pj_R_to (G0, 38, [(0, .ref 171), (1, .int many)], [.int (Int32.ofInt (-1))], 0, 0) 38 2 (fun _ => rfl) h) ?_
    have q4 : (pj_fi G0 171 17).toInt = y1.toInt := by rw [show pj_fi G0 171 17 = y1 from hy1.symm]
    have q5 : (pj_fi G0 171 18).toInt = y2.toInt := by rw [show pj_fi G0 171 18 = y2 from hy2.symm]
    exact pj_X_rt rfl rfl ⟨_, rfl, hI, hK, ⟨by omega, by omega⟩, by omega⟩
  | false =>
    have ub3 := pj_u_geF b3
    refine pj_X_of (fun r h => pj_R_icF rfl b3 h) ?_
    refine pj_X_of (fun r h => pj_R_to (G0, 12, [(0, .ref 171), (1, .int many)], [.ref 171], 0, 0) 12 2 (fun _ => rfl) h) ?_
    refine pj_X_of (fun r h => pj_T_gr hI rfl rfl rfl h) ?_
    refine pj_X_of (fun r h => pj_R_to (G0, 16, [(0, .ref 171), (1, .int many)], [.ref 171, .ref 180], 0, 0) 16 2 (fun _ => rfl) h) ?_
    refine pj_X_of (fun r h => pj_T_gi hI rfl rfl h) ?_
    show pj_X _ _ G0 19 [(0, .ref 171), (1, .int many)] [.int (pj_fi G0 171 17), .ref 180] _
    refine pj_X_eqi (show pj_fi G0 171 17 = y1 from hy1.symm) ?_
    refine pj_X_of (fun r h => pj_T_il hI rfl rfl (by omega) (by omega) h) ?_
    show pj_X _ _ G0 20 [(0, .ref 171), (1, .int many)] [.int (pj_ai G0 180 y1.toInt.toNat)] _
    obtain ⟨z6, hz6⟩ : ∃ z : Int32, z = pj_ai G0 180 y1.toInt.toNat := ⟨_, rfl⟩
    refine pj_X_eqi hz6.symm ?_
    have ez6 : (pj_ai G0 180 y1.toInt.toNat).toInt = z6.toInt := by rw [hz6]
    have fz6_0 : (0 : Int) ≤ z6.toInt ∧ z6.toInt ≤ 255 ∧ (z6.toInt ≤ 0 ∨ 0 ≤ z6.toInt) := by rw [hz6]; exact hI.2.2.1 180 (80, 0, 255, 0, 0) rfl _ (by show _ < 80; omega)
    have gz6 : (pj_ai G0 180 (pj_fi G0 171 17).toInt.toNat).toInt = z6.toInt := by rw [show pj_fi G0 171 17 = y1 from hy1.symm, hz6]
    refine pj_X_of (fun r h => pj_R_to (G0, 28, [(0, .ref 171), (1, .int many)], [.int (((Int8.ofInt 97).toInt32) + many), .long (Int64.ofInt 97), .long z6.toInt64], 0, 0) 28 6 (fun _ => rfl) h) ?_
    obtain ⟨z7, hz7⟩ : ∃ z : Int32, z = ((Int8.ofInt 97).toInt32) + many := ⟨_, rfl⟩
    refine pj_X_eqi hz7.symm ?_
    have fz7_0 : z7.toInt = ((Int8.ofInt 97).toInt32).toInt + many.toInt := by rw [hz7]; exact pj_addI (by have := pj_i32 ((Int8.ofInt 97).toInt32); have := pj_i32 many; omega) (by have := pj_i32 ((Int8.ofInt 97).toInt32); have := pj_i32 many; omega)
    refine pj_X_of (fun r h => pj_R_to (G0, 30, [(0, .ref 171), (1, .int many)], [.int (z7 - (Int32.ofInt 1)), .long (Int64.ofInt 97), .long z6.toInt64], 0, 0) 30 3 (fun _ => rfl) h) ?_
    obtain ⟨z8, hz8⟩ : ∃ z : Int32, z = z7 - (Int32.ofInt 1) := ⟨_, rfl⟩
    refine pj_X_eqi hz8.symm ?_
    have fz8_0 : z8.toInt = z7.toInt - (Int32.ofInt 1).toInt := by rw [hz8]; exact pj_subI (by have := pj_i32 z7; have := pj_i32 (Int32.ofInt 1); omega) (by have := pj_i32 z7; have := pj_i32 (Int32.ofInt 1); omega)
    refine pj_X_of (fun r h => pj_R_to (G0, 31, [(0, .ref 171), (1, .int many)], [.long z8.toInt64, .long (Int64.ofInt 97), .long z6.toInt64], 0, 0) 31 2 (fun _ => rfl) h) ?_
    have q9 : (pj_fi G0 171 17).toInt = y1.toInt := by rw [show pj_fi G0 171 17 = y1 from hy1.symm]
    have q10 : (pj_fi G0 171 18).toInt = y2.toInt := by rw [show pj_fi G0 171 18 = y2 from hy2.symm]
    have lc11 : (z6.toInt64).toInt = z6.toInt := Int32.toInt_toInt64 _
    have lc12 : (Int64.ofInt 97).toInt = 97 := by decide
    have lc13 : (z8.toInt64).toInt = z8.toInt := Int32.toInt_toInt64 _
    refine pj_X_ca (vs := [.long z6.toInt64, .long (Int64.ofInt 97), .long z8.toInt64]) rfl (fun _ => rfl) ⟨Nat.le_of_ble_eq_true rfl, Nat.le_of_ble_eq_true rfl, rfl⟩ ⟨rfl, rfl⟩ (pj_Y_up (by decide) (ct_170x G0 hI z6.toInt64 (Int64.ofInt 97) z8.toInt64)) ?_
    rintro _ _ ⟨y14, rfl, rfl, ry14, ey14, fy14⟩
    show pj_X _ _ G0 34 [(0, .ref 171), (1, .int many)] [.int y14] _
    cases b15 : pj_c1 .ne y14 0 with
    | true =>
      have ub15 := pj_u0_neT b15
      refine pj_X_of (fun r h => pj_R_ifT 39 rfl rfl b15 h) ?_
      refine pj_X_of (fun r h => pj_R_to (G0, 41, [(0, .ref 171), (1, .int many)], [.ref 171, .ref 171], 0, 0) 41 3 (fun _ => rfl) h) ?_
      refine pj_X_of (fun r h => pj_T_gi hI rfl rfl h) ?_
      show pj_X _ _ G0 44 [(0, .ref 171), (1, .int many)] [.int (pj_fi G0 171 17), .ref 171] _
      refine pj_X_eqi (show pj_fi G0 171 17 = y1 from hy1.symm) ?_
      refine pj_X_of (fun r h => pj_R_to (G0, 46, [(0, .ref 171), (1, .int many)], [.int (y1 + (Int32.ofInt 1)), .ref 171], 0, 0) 46 3 (fun _ => rfl) h) ?_
      obtain ⟨z16, hz16⟩ : ∃ z : Int32, z = y1 + (Int32.ofInt 1) := ⟨_, rfl⟩
      refine pj_X_eqi hz16.symm ?_
      have fz16_0 : z16.toInt = y1.toInt + (Int32.ofInt 1).toInt := by rw [hz16]; exact pj_addI (by have := pj_i32 y1; have := pj_i32 (Int32.ofInt 1); omega) (by have := pj_i32 y1; have := pj_i32 (Int32.ofInt 1); omega)
      refine pj_X_of (fun r h => pj_T_pf hI rfl rfl rfl h) ?_
      show pj_X _ _ (pj_wv G0 171 17 (.int z16)) 49 [(0, .ref 171), (1, .int many)] [] _
      obtain ⟨G17, hG17⟩ : ∃ H, H = pj_wv G0 171 17 (.int z16) := ⟨_, rfl⟩
      have iG17 : pj_Inv G17 := by rw [hG17]; exact pj_Inv_wi hI (ci := 12) rfl (fun q hq => by cases hq; exact ⟨by show (0 : Int) ≤ _; omega, by show _ ≤ (80 : Int); omega⟩)
      have kG17 : pj_kpt kc_187 G0 G17 := by rw [hG17]; exact pj_kpt_v hK rfl
      rw [← hG17]
      refine pj_X_of (fun r h => pj_R_to (G17, 50, [(0, .ref 171), (1, .int many)], [.ref 171], 0, 0) 50 2 (fun _ => rfl) h) ?_
      refine pj_X_of (fun r h => pj_T_gr iG17 rfl rfl rfl h) ?_
      refine pj_X_of (fun r h => pj_R_to (G17, 54, [(0, .ref 171), (1, .int many)], [.ref 171, .ref 180], 0, 0) 54 2 (fun _ => rfl) h) ?_
      refine pj_X_of (fun r h => pj_T_gi iG17 rfl rfl h) ?_
      show pj_X _ _ G17 57 [(0, .ref 171), (1, .int many)] [.int (pj_fi G17 171 17), .ref 180] _
      refine pj_X_eqi (show pj_fi G17 171 17 = z16 from by rw [hG17]; exact pj_fi_wi hI.1 (ci := 12) rfl _) ?_
      refine pj_X_of (fun r h => pj_R_to (G17, 59, [(0, .ref 171), (1, .int many)], [.int (z16 - (Int32.ofInt 1)), .ref 180], 0, 0) 59 3 (fun _ => rfl) h) ?_
      obtain ⟨z18, hz18⟩ : ∃ z : Int32, z = z16 - (Int32.ofInt 1) := ⟨_, rfl⟩
      refine pj_X_eqi hz18.symm ?_
      have fz18_0 : z18.toInt = z16.toInt - (Int32.ofInt 1).toInt := by rw [hz18]; exact pj_subI (by have := pj_i32 z16; have := pj_i32 (Int32.ofInt 1); omega) (by have := pj_i32 z16; have := pj_i32 (Int32.ofInt 1); omega)
      refine pj_X_of (fun r h => pj_T_il iG17 rfl rfl (by omega) (by omega) h) ?_
      show pj_X _ _ G17 60 [(0, .ref 171), (1, .int many)] [.int (pj_ai G17 180 z18.toInt.toNat)] _
      obtain ⟨z19, hz19⟩ : ∃ z : Int32, z = pj_ai G17 180 z18.toInt.toNat := ⟨_, rfl⟩
      refine pj_X_eqi hz19.symm ?_
      have ez19 : (pj_ai G17 180 z18.toInt.toNat).toInt = z19.toInt := by rw [hz19]
      have fz19_0 : (0 : Int) ≤ z19.toInt ∧ z19.toInt ≤ 255 ∧ (z19.toInt ≤ 0 ∨ 0 ≤ z19.toInt) := by rw [hz19]; exact iG17.2.2.1 180 (80, 0, 255, 0, 0) rfl _ (by show _ < 80; omega)
      have xz19_z6 : z19.toInt = z6.toInt := by rw [hz19, hG17, pj_ai_wv, show z18.toInt.toNat = y1.toInt.toNat by omega, hz6]
      refine pj_X_of (fun r h => pj_R_to (G17, 63, [(0, .ref 171), (1, .int many)], [.int (z19 - ((Int8.ofInt 97).toInt32))], 0, 0) 63 3 (fun _ => rfl) h) ?_
      obtain ⟨z20, hz20⟩ : ∃ z : Int32, z = z19 - ((Int8.ofInt 97).toInt32) := ⟨_, rfl⟩
      refine pj_X_eqi hz20.symm ?_
      have fz20_0 : z20.toInt = z19.toInt - ((Int8.ofInt 97).toInt32).toInt := by rw [hz20]; exact pj_subI (by have := pj_i32 z19; have := pj_i32 ((Int8.ofInt 97).toInt32); omega) (by have := pj_i32 z19; have := pj_i32 ((Int8.ofInt 97).toInt32); omega)
      have q21 : (pj_fi G17 171 17).toInt = z16.toInt := by rw [show pj_fi G17 171 17 = z16 from by rw [hG17]; exact pj_fi_wi hI.1 (ci := 12) rfl _]
      have q22 : (pj_fi G17 171 18).toInt = y2.toInt := by rw [show pj_fi G17 171 18 = y2 from by rw [hG17, pj_fi_wv_ne _ _ _ _ _ _ (by decide)]; exact hy2.symm]
      exact pj_X_rt rfl rfl ⟨_, rfl, iG17, kG17, ⟨by omega, by omega⟩, by omega⟩
    | false =>
      have ub15 := pj_u0_neF b15
      refine pj_X_of (fun r h => pj_R_ifF rfl b15 h) ?_
      refine pj_X_of (fun r h => pj_R_to (G0, 38, [(0, .ref 171), (1, .int many)], [.int (Int32.ofInt (-1))], 0, 0) 38 2 (fun _ => rfl) h) ?_
      have q23 : (pj_fi G0 171 17).toInt = y1.toInt := by rw [show pj_fi G0 171 17 = y1 from hy1.symm]
      have q24 : (pj_fi G0 171 18).toInt = y2.toInt := by rw [show pj_fi G0 171 18 = y2 from hy2.symm]
      exact pj_X_rt rfl rfl ⟨_, rfl, hI, hK, ⟨by omega, by omega⟩, by omega⟩
theorem ct_188 (G0 : pj_G) (hI : pj_Inv G0) (n : Int32) (most : Int32) (is : Int32) (rn : (0 : Int) ≤ n.toInt ∧ n.toInt ≤ 80) (rmost : (0 : Int) ≤ most.toInt ∧ most.toInt ≤ 80) (ris : (0 : Int) ≤ is.toInt ∧ is.toInt ≤ 1) : pj_Y 1 188 [.ref 171, .int n, .int most, .int is] G0 (fun v G' => ∃ y : Int32, v = some (.int y) ∧ G0 = G' ∧ ((-81 : Int) ≤ y.toInt ∧ y.toInt ≤ 0) ∧ (0 ≤ y.toInt → 1 ≤ is.toInt ∧ (pj_fi G0 171 17).toInt = (pj_fi G0 171 18).toInt)) := by
  have c0_ : (Int32.ofInt (-1)).toInt = -1 := by decide
  have c1_ : (Int32.ofInt 0).toInt = 0 := by decide
  have c2_ : (Int32.ofInt 1).toInt = 1 := by decide
  refine pj_Y_X (M := pj_m188) rfl rfl (Nat.le_of_ble_eq_true rfl) ?_
  have hK : pj_kpt ([], [], []) G0 G0 := pj_kpt_r _ _
  show pj_X _ _ G0 0 [(0, .ref 171), (1, .int n), (2, .int most), (3, .int is)] [] _
  obtain ⟨y1, hy1⟩ : ∃ z : Int32, z = pj_fi G0 171 17 := ⟨_, rfl⟩
  have ey1 : (pj_fi G0 171 17).toInt = y1.toInt := by rw [hy1]
  have ry1 : (0 : Int) ≤ y1.toInt ∧ y1.toInt ≤ 80 := by rw [hy1]; exact hI.2.1 171 17 (0, 80) rfl
  obtain ⟨y2, hy2⟩ : ∃ z : Int32, z = pj_fi G0 171 18 := ⟨_, rfl⟩
  have ey2 : (pj_fi G0 171 18).toInt = y2.toInt := by rw [hy2]
  have ry2 : (0 : Int) ≤ y2.toInt ∧ y2.toInt ≤ 80 := by rw [hy2]; exact hI.2.1 171 18 (0, 80) rfl
  refine pj_X_of (fun r h => pj_R_to (G0, 1, [(0, .ref 171), (1, .int n), (2, .int most), (3, .int is)], [.int is], 0, 0) 1 2 (fun _ => rfl) h) ?_
  cases b3 : pj_c1 .eq is 0 with
  | true =>
    have ub3 := pj_u0_eqT b3
    refine pj_X_of (fun r h => pj_R_ifT 19 rfl rfl b3 h) ?_
    refine pj_X_of (fun r h => pj_R_to (G0, 24, [(4, .int (Int32.ofInt 0)), (0, .ref 171), (1, .int n), (2, .int most), (3, .int is)], [.int most, .int n], 0, 0) 24 5 (fun _ => rfl) h) ?_
    cases b4 : pj_c1 .le n most with
    | true =>
      have ub4 := pj_u_leT b4
      refine pj_X_of (fun r h => pj_R_icT 44 rfl rfl b4 h) ?_
      refine pj_X_of (fun r h => pj_R_to (G0, 46, [(4, .int (Int32.ofInt 0)), (0, .ref 171), (1, .int n), (2, .int most), (3, .int is)], [.int (Int32.ofInt 0)], 0, 0) 46 2 (fun _ => rfl) h) ?_
      refine pj_X_of (fun r h => pj_R_ifT 53 rfl rfl (pj_b0_eqT (by omega)) h) ?_
      refine pj_X_of (fun r h => pj_R_to (G0, 55, [(4, .int (Int32.ofInt 0)), (0, .ref 171), (1, .int n), (2, .int most), (3, .int is)], [.ref 171, .int (Int32.ofInt (-1))], 0, 0) 55 3 (fun _ => rfl) h) ?_
      refine pj_X_of (fun r h => pj_T_gi hI rfl rfl h) ?_
      show pj_X _ _ G0 58 [(4, .int (Int32.ofInt 0)), (0, .ref 171), (1, .int n), (2, .int most), (3, .int is)] [.int (pj_fi G0 171 17), .int (Int32.ofInt (-1))] _
      refine pj_X_eqi (show pj_fi G0 171 17 = y1 from hy1.symm) ?_
      refine pj_X_of (fun r h => pj_R_to (G0, 59, [(4, .int (Int32.ofInt 0)), (0, .ref 171), (1, .int n), (2, .int most), (3, .int is)], [.int ((Int32.ofInt (-1)) - y1)], 0, 0) 59 2 (fun _ => rfl) h) ?_
      obtain ⟨z5, hz5⟩ : ∃ z : Int32, z = (Int32.ofInt (-1)) - y1 := ⟨_, rfl⟩
      refine pj_X_eqi hz5.symm ?_
      have fz5_0 : z5.toInt = (Int32.ofInt (-1)).toInt - y1.toInt := by rw [hz5]; exact pj_subI (by have := pj_i32 (Int32.ofInt (-1)); have := pj_i32 y1; omega) (by have := pj_i32 (Int32.ofInt (-1)); have := pj_i32 y1; omega)
      have q6 : (pj_fi G0 171 17).toInt = y1.toInt := by rw [show pj_fi G0 171 17 = y1 from hy1.symm]
      have q7 : (pj_fi G0 171 18).toInt = y2.toInt := by rw [show pj_fi G0 171 18 = y2 from hy2.symm]
      exact pj_X_rt rfl rfl ⟨_, rfl, rfl, ⟨by omega, by omega⟩, by omega⟩
    | false =>
      have ub4 := pj_u_leF b4
      refine pj_X_of (fun r h => pj_R_icF rfl b4 h) ?_
      refine pj_X_of (fun r h => pj_R_to (G0, 29, [(4, .int (Int32.ofInt 0)), (0, .ref 171), (1, .int n), (2, .int most), (3, .int is)], [.int (Int32.ofInt 0)], 0, 0) 29 2 (fun _ => rfl) h) ?_
      refine pj_X_of (fun r h => pj_R_ifF rfl (pj_b0_neF (by omega)) h) ?_
      refine pj_X_of (fun r h => pj_R_to (G0, 33, [(4, .int (Int32.ofInt 0)), (0, .ref 171), (1, .int n), (2, .int most), (3, .int is)], [.ref 171], 0, 0) 33 2 (fun _ => rfl) h) ?_
      refine pj_X_of (fun r h => pj_T_gi hI rfl rfl h) ?_
      show pj_X _ _ G0 36 [(4, .int (Int32.ofInt 0)), (0, .ref 171), (1, .int n), (2, .int most), (3, .int is)] [.int (pj_fi G0 171 17)] _
      refine pj_X_eqi (show pj_fi G0 171 17 = y1 from hy1.symm) ?_
      refine pj_X_of (fun r h => pj_R_to (G0, 37, [(4, .int (Int32.ofInt 0)), (0, .ref 171), (1, .int n), (2, .int most), (3, .int is)], [.int most, .int y1], 0, 0) 37 2 (fun _ => rfl) h) ?_
      cases b8 : pj_c1 .lt y1 most with
      | true =>
        have ub8 := pj_u_ltT b8
        refine pj_X_of (fun r h => pj_R_icT 44 rfl rfl b8 h) ?_
        refine pj_X_of (fun r h => pj_R_to (G0, 46, [(4, .int (Int32.ofInt 0)), (0, .ref 171), (1, .int n), (2, .int most), (3, .int is)], [.int (Int32.ofInt 0)], 0, 0) 46 2 (fun _ => rfl) h) ?_
        refine pj_X_of (fun r h => pj_R_ifT 53 rfl rfl (pj_b0_eqT (by omega)) h) ?_
        refine pj_X_of (fun r h => pj_R_to (G0, 55, [(4, .int (Int32.ofInt 0)), (0, .ref 171), (1, .int n), (2, .int most), (3, .int is)], [.ref 171, .int (Int32.ofInt (-1))], 0, 0) 55 3 (fun _ => rfl) h) ?_
        refine pj_X_of (fun r h => pj_T_gi hI rfl rfl h) ?_
        show pj_X _ _ G0 58 [(4, .int (Int32.ofInt 0)), (0, .ref 171), (1, .int n), (2, .int most), (3, .int is)] [.int (pj_fi G0 171 17), .int (Int32.ofInt (-1))] _
        refine pj_X_eqi (show pj_fi G0 171 17 = y1 from hy1.symm) ?_
        refine pj_X_of (fun r h => pj_R_to (G0, 59, [(4, .int (Int32.ofInt 0)), (0, .ref 171), (1, .int n), (2, .int most), (3, .int is)], [.int ((Int32.ofInt (-1)) - y1)], 0, 0) 59 2 (fun _ => rfl) h) ?_
        obtain ⟨z9, hz9⟩ : ∃ z : Int32, z = (Int32.ofInt (-1)) - y1 := ⟨_, rfl⟩
        refine pj_X_eqi hz9.symm ?_
        have fz9_0 : z9.toInt = (Int32.ofInt (-1)).toInt - y1.toInt := by rw [hz9]; exact pj_subI (by have := pj_i32 (Int32.ofInt (-1)); have := pj_i32 y1; omega) (by have := pj_i32 (Int32.ofInt (-1)); have := pj_i32 y1; omega)
        have q10 : (pj_fi G0 171 17).toInt = y1.toInt := by rw [show pj_fi G0 171 17 = y1 from hy1.symm]
        have q11 : (pj_fi G0 171 18).toInt = y2.toInt := by rw [show pj_fi G0 171 18 = y2 from hy2.symm]
        exact pj_X_rt rfl rfl ⟨_, rfl, rfl, ⟨by omega, by omega⟩, by omega⟩
      | false =>
        have ub8 := pj_u_ltF b8
        refine pj_X_of (fun r h => pj_R_icF rfl b8 h) ?_
        refine pj_X_of (fun r h => pj_R_to (G0, 43, [(4, .int (Int32.ofInt 0)), (0, .ref 171), (1, .int n), (2, .int most), (3, .int is)], [.int ((Int32.ofInt (-1)) - most)], 0, 0) 43 4 (fun _ => rfl) h) ?_
        obtain ⟨z12, hz12⟩ : ∃ z : Int32, z = (Int32.ofInt (-1)) - most := ⟨_, rfl⟩
        refine pj_X_eqi hz12.symm ?_
        have fz12_0 : z12.toInt = (Int32.ofInt (-1)).toInt - most.toInt := by rw [hz12]; exact pj_subI (by have := pj_i32 (Int32.ofInt (-1)); have := pj_i32 most; omega) (by have := pj_i32 (Int32.ofInt (-1)); have := pj_i32 most; omega)
        have q13 : (pj_fi G0 171 17).toInt = y1.toInt := by rw [show pj_fi G0 171 17 = y1 from hy1.symm]
        have q14 : (pj_fi G0 171 18).toInt = y2.toInt := by rw [show pj_fi G0 171 18 = y2 from hy2.symm]
        exact pj_X_rt rfl rfl ⟨_, rfl, rfl, ⟨by omega, by omega⟩, by omega⟩
  | false =>
    have ub3 := pj_u0_eqF b3
    refine pj_X_of (fun r h => pj_R_ifF rfl b3 h) ?_
    refine pj_X_of (fun r h => pj_R_to (G0, 5, [(0, .ref 171), (1, .int n), (2, .int most), (3, .int is)], [.ref 171], 0, 0) 5 2 (fun _ => rfl) h) ?_
    refine pj_X_of (fun r h => pj_T_gi hI rfl rfl h) ?_
    show pj_X _ _ G0 8 [(0, .ref 171), (1, .int n), (2, .int most), (3, .int is)] [.int (pj_fi G0 171 17)] _
    refine pj_X_eqi (show pj_fi G0 171 17 = y1 from hy1.symm) ?_
    refine pj_X_of (fun r h => pj_R_to (G0, 9, [(0, .ref 171), (1, .int n), (2, .int most), (3, .int is)], [.ref 171, .int y1], 0, 0) 9 2 (fun _ => rfl) h) ?_
    refine pj_X_of (fun r h => pj_T_gi hI rfl rfl h) ?_
    show pj_X _ _ G0 12 [(0, .ref 171), (1, .int n), (2, .int most), (3, .int is)] [.int (pj_fi G0 171 18), .int y1] _
    refine pj_X_eqi (show pj_fi G0 171 18 = y2 from hy2.symm) ?_
    cases b15 : pj_c1 .ne y1 y2 with
    | true =>
      have ub15 := pj_u_neT b15
      refine pj_X_of (fun r h => pj_R_icT 19 rfl rfl b15 h) ?_
      refine pj_X_of (fun r h => pj_R_to (G0, 24, [(4, .int (Int32.ofInt 0)), (0, .ref 171), (1, .int n), (2, .int most), (3, .int is)], [.int most, .int n], 0, 0) 24 5 (fun _ => rfl) h) ?_
      cases b16 : pj_c1 .le n most with
      | true =>
        have ub16 := pj_u_leT b16
        refine pj_X_of (fun r h => pj_R_icT 44 rfl rfl b16 h) ?_
        refine pj_X_of (fun r h => pj_R_to (G0, 46, [(4, .int (Int32.ofInt 0)), (0, .ref 171), (1, .int n), (2, .int most), (3, .int is)], [.int (Int32.ofInt 0)], 0, 0) 46 2 (fun _ => rfl) h) ?_
        refine pj_X_of (fun r h => pj_R_ifT 53 rfl rfl (pj_b0_eqT (by omega)) h) ?_
        refine pj_X_of (fun r h => pj_R_to (G0, 55, [(4, .int (Int32.ofInt 0)), (0, .ref 171), (1, .int n), (2, .int most), (3, .int is)], [.ref 171, .int (Int32.ofInt (-1))], 0, 0) 55 3 (fun _ => rfl) h) ?_
        refine pj_X_of (fun r h => pj_T_gi hI rfl rfl h) ?_
        show pj_X _ _ G0 58 [(4, .int (Int32.ofInt 0)), (0, .ref 171), (1, .int n), (2, .int most), (3, .int is)] [.int (pj_fi G0 171 17), .int (Int32.ofInt (-1))] _
        refine pj_X_eqi (show pj_fi G0 171 17 = y1 from hy1.symm) ?_
        refine pj_X_of (fun r h => pj_R_to (G0, 59, [(4, .int (Int32.ofInt 0)), (0, .ref 171), (1, .int n), (2, .int most), (3, .int is)], [.int ((Int32.ofInt (-1)) - y1)], 0, 0) 59 2 (fun _ => rfl) h) ?_
        obtain ⟨z17, hz17⟩ : ∃ z : Int32, z = (Int32.ofInt (-1)) - y1 := ⟨_, rfl⟩
        refine pj_X_eqi hz17.symm ?_
        have fz17_0 : z17.toInt = (Int32.ofInt (-1)).toInt - y1.toInt := by rw [hz17]; exact pj_subI (by have := pj_i32 (Int32.ofInt (-1)); have := pj_i32 y1; omega) (by have := pj_i32 (Int32.ofInt (-1)); have := pj_i32 y1; omega)
        have q18 : (pj_fi G0 171 17).toInt = y1.toInt := by rw [show pj_fi G0 171 17 = y1 from hy1.symm]
        have q19 : (pj_fi G0 171 18).toInt = y2.toInt := by rw [show pj_fi G0 171 18 = y2 from hy2.symm]
        exact pj_X_rt rfl rfl ⟨_, rfl, rfl, ⟨by omega, by omega⟩, by omega⟩
      | false =>
        have ub16 := pj_u_leF b16
        refine pj_X_of (fun r h => pj_R_icF rfl b16 h) ?_
        refine pj_X_of (fun r h => pj_R_to (G0, 29, [(4, .int (Int32.ofInt 0)), (0, .ref 171), (1, .int n), (2, .int most), (3, .int is)], [.int (Int32.ofInt 0)], 0, 0) 29 2 (fun _ => rfl) h) ?_
        refine pj_X_of (fun r h => pj_R_ifF rfl (pj_b0_neF (by omega)) h) ?_
        refine pj_X_of (fun r h => pj_R_to (G0, 33, [(4, .int (Int32.ofInt 0)), (0, .ref 171), (1, .int n), (2, .int most), (3, .int is)], [.ref 171], 0, 0) 33 2 (fun _ => rfl) h) ?_
        refine pj_X_of (fun r h => pj_T_gi hI rfl rfl h) ?_
        show pj_X _ _ G0 36 [(4, .int (Int32.ofInt 0)), (0, .ref 171), (1, .int n), (2, .int most), (3, .int is)] [.int (pj_fi G0 171 17)] _
        refine pj_X_eqi (show pj_fi G0 171 17 = y1 from hy1.symm) ?_
        refine pj_X_of (fun r h => pj_R_to (G0, 37, [(4, .int (Int32.ofInt 0)), (0, .ref 171), (1, .int n), (2, .int most), (3, .int is)], [.int most, .int y1], 0, 0) 37 2 (fun _ => rfl) h) ?_
        cases b20 : pj_c1 .lt y1 most with
        | true =>
          have ub20 := pj_u_ltT b20
          refine pj_X_of (fun r h => pj_R_icT 44 rfl rfl b20 h) ?_
          refine pj_X_of (fun r h => pj_R_to (G0, 46, [(4, .int (Int32.ofInt 0)), (0, .ref 171), (1, .int n), (2, .int most), (3, .int is)], [.int (Int32.ofInt 0)], 0, 0) 46 2 (fun _ => rfl) h) ?_
          refine pj_X_of (fun r h => pj_R_ifT 53 rfl rfl (pj_b0_eqT (by omega)) h) ?_
          refine pj_X_of (fun r h => pj_R_to (G0, 55, [(4, .int (Int32.ofInt 0)), (0, .ref 171), (1, .int n), (2, .int most), (3, .int is)], [.ref 171, .int (Int32.ofInt (-1))], 0, 0) 55 3 (fun _ => rfl) h) ?_
          refine pj_X_of (fun r h => pj_T_gi hI rfl rfl h) ?_
          show pj_X _ _ G0 58 [(4, .int (Int32.ofInt 0)), (0, .ref 171), (1, .int n), (2, .int most), (3, .int is)] [.int (pj_fi G0 171 17), .int (Int32.ofInt (-1))] _
          refine pj_X_eqi (show pj_fi G0 171 17 = y1 from hy1.symm) ?_
          refine pj_X_of (fun r h => pj_R_to (G0, 59, [(4, .int (Int32.ofInt 0)), (0, .ref 171), (1, .int n), (2, .int most), (3, .int is)], [.int ((Int32.ofInt (-1)) - y1)], 0, 0) 59 2 (fun _ => rfl) h) ?_
          obtain ⟨z21, hz21⟩ : ∃ z : Int32, z = (Int32.ofInt (-1)) - y1 := ⟨_, rfl⟩
          refine pj_X_eqi hz21.symm ?_
          have fz21_0 : z21.toInt = (Int32.ofInt (-1)).toInt - y1.toInt := by rw [hz21]; exact pj_subI (by have := pj_i32 (Int32.ofInt (-1)); have := pj_i32 y1; omega) (by have := pj_i32 (Int32.ofInt (-1)); have := pj_i32 y1; omega)
          have q22 : (pj_fi G0 171 17).toInt = y1.toInt := by rw [show pj_fi G0 171 17 = y1 from hy1.symm]
          have q23 : (pj_fi G0 171 18).toInt = y2.toInt := by rw [show pj_fi G0 171 18 = y2 from hy2.symm]
          exact pj_X_rt rfl rfl ⟨_, rfl, rfl, ⟨by omega, by omega⟩, by omega⟩
        | false =>
          have ub20 := pj_u_ltF b20
          refine pj_X_of (fun r h => pj_R_icF rfl b20 h) ?_
          refine pj_X_of (fun r h => pj_R_to (G0, 43, [(4, .int (Int32.ofInt 0)), (0, .ref 171), (1, .int n), (2, .int most), (3, .int is)], [.int ((Int32.ofInt (-1)) - most)], 0, 0) 43 4 (fun _ => rfl) h) ?_
          obtain ⟨z24, hz24⟩ : ∃ z : Int32, z = (Int32.ofInt (-1)) - most := ⟨_, rfl⟩
          refine pj_X_eqi hz24.symm ?_
          have fz24_0 : z24.toInt = (Int32.ofInt (-1)).toInt - most.toInt := by rw [hz24]; exact pj_subI (by have := pj_i32 (Int32.ofInt (-1)); have := pj_i32 most; omega) (by have := pj_i32 (Int32.ofInt (-1)); have := pj_i32 most; omega)
          have q25 : (pj_fi G0 171 17).toInt = y1.toInt := by rw [show pj_fi G0 171 17 = y1 from hy1.symm]
          have q26 : (pj_fi G0 171 18).toInt = y2.toInt := by rw [show pj_fi G0 171 18 = y2 from hy2.symm]
          exact pj_X_rt rfl rfl ⟨_, rfl, rfl, ⟨by omega, by omega⟩, by omega⟩
    | false =>
      have ub15 := pj_u_neF b15
      refine pj_X_of (fun r h => pj_R_icF rfl b15 h) ?_
      refine pj_X_of (fun r h => pj_R_to (G0, 24, [(4, .int (Int32.ofInt 1)), (0, .ref 171), (1, .int n), (2, .int most), (3, .int is)], [.int most, .int n], 0, 0) 24 6 (fun _ => rfl) h) ?_
      cases b27 : pj_c1 .le n most with
      | true =>
        have ub27 := pj_u_leT b27
        refine pj_X_of (fun r h => pj_R_icT 44 rfl rfl b27 h) ?_
        refine pj_X_of (fun r h => pj_R_to (G0, 46, [(4, .int (Int32.ofInt 1)), (0, .ref 171), (1, .int n), (2, .int most), (3, .int is)], [.int (Int32.ofInt 1)], 0, 0) 46 2 (fun _ => rfl) h) ?_
        refine pj_X_of (fun r h => pj_R_ifF rfl (pj_b0_eqF (by omega)) h) ?_
        refine pj_X_of (fun r h => pj_R_to (G0, 59, [(4, .int (Int32.ofInt 1)), (0, .ref 171), (1, .int n), (2, .int most), (3, .int is)], [.int (Int32.ofInt 0)], 0, 0) 59 3 (fun _ => rfl) h) ?_
        have q28 : (pj_fi G0 171 17).toInt = y1.toInt := by rw [show pj_fi G0 171 17 = y1 from hy1.symm]
        have q29 : (pj_fi G0 171 18).toInt = y2.toInt := by rw [show pj_fi G0 171 18 = y2 from hy2.symm]
        exact pj_X_rt rfl rfl ⟨_, rfl, rfl, ⟨by omega, by omega⟩, by omega⟩
      | false =>
        have ub27 := pj_u_leF b27
        refine pj_X_of (fun r h => pj_R_icF rfl b27 h) ?_
        refine pj_X_of (fun r h => pj_R_to (G0, 29, [(4, .int (Int32.ofInt 1)), (0, .ref 171), (1, .int n), (2, .int most), (3, .int is)], [.int (Int32.ofInt 1)], 0, 0) 29 2 (fun _ => rfl) h) ?_
        refine pj_X_of (fun r h => pj_R_ifT 40 rfl rfl (pj_b0_neT (by omega)) h) ?_
        refine pj_X_of (fun r h => pj_R_to (G0, 43, [(4, .int (Int32.ofInt 1)), (0, .ref 171), (1, .int n), (2, .int most), (3, .int is)], [.int ((Int32.ofInt (-1)) - most)], 0, 0) 43 4 (fun _ => rfl) h) ?_
        obtain ⟨z30, hz30⟩ : ∃ z : Int32, z = (Int32.ofInt (-1)) - most := ⟨_, rfl⟩
        refine pj_X_eqi hz30.symm ?_
        have fz30_0 : z30.toInt = (Int32.ofInt (-1)).toInt - most.toInt := by rw [hz30]; exact pj_subI (by have := pj_i32 (Int32.ofInt (-1)); have := pj_i32 most; omega) (by have := pj_i32 (Int32.ofInt (-1)); have := pj_i32 most; omega)
        have q31 : (pj_fi G0 171 17).toInt = y1.toInt := by rw [show pj_fi G0 171 17 = y1 from hy1.symm]
        have q32 : (pj_fi G0 171 18).toInt = y2.toInt := by rw [show pj_fi G0 171 18 = y2 from hy2.symm]
        exact pj_X_rt rfl rfl ⟨_, rfl, rfl, ⟨by omega, by omega⟩, by omega⟩
def kc_189 : pj_KT := ([(171, 17), (171, 23)], [171], [])
theorem ct_189 (G0 : pj_G) (hI : pj_Inv G0) (many : Int32) (rmany : (0 : Int) ≤ many.toInt ∧ many.toInt ≤ 8) : pj_Y 3 189 [.ref 171, .int many] G0 (fun v G' => ∃ y : Int32, v = some (.int y) ∧ pj_Inv G' ∧ pj_kpt kc_189 G0 G' ∧ ((-1 : Int) ≤ y.toInt ∧ y.toInt ≤ 7) ∧ (y.toInt ≤ many.toInt - 1 ∧ (0 ≤ y.toInt → 0 ≤ (pj_fi G' 171 23).toInt ∧ (pj_fi G' 171 23).toInt ≤ many.toInt - 1))) := by
  have c0_ : ((Int8.ofInt 97).toInt32).toInt = 97 := by decide
  have c1_ : (Int32.ofInt (-1)).toInt = -1 := by decide
  refine pj_Y_X (M := pj_m189) rfl rfl (Nat.le_of_ble_eq_true rfl) ?_
  have hK : pj_kpt kc_189 G0 G0 := pj_kpt_r _ _
  show pj_X _ _ G0 0 [(0, .ref 171), (1, .int many)] [] _
  obtain ⟨y1, hy1⟩ : ∃ z : Int32, z = pj_fi G0 171 23 := ⟨_, rfl⟩
  have ey1 : (pj_fi G0 171 23).toInt = y1.toInt := by rw [hy1]
  have ry1 : (-1 : Int) ≤ y1.toInt ∧ y1.toInt ≤ 7 := by rw [hy1]; exact hI.2.1 171 23 (-1, 7) rfl
  obtain ⟨y2, hy2⟩ : ∃ z : Int32, z = pj_fi G0 171 17 := ⟨_, rfl⟩
  have ey2 : (pj_fi G0 171 17).toInt = y2.toInt := by rw [hy2]
  have ry2 : (0 : Int) ≤ y2.toInt ∧ y2.toInt ≤ 80 := by rw [hy2]; exact hI.2.1 171 17 (0, 80) rfl
  refine pj_X_of (fun r h => pj_R_to (G0, 3, [(0, .ref 171), (1, .int many)], [.int many, .ref 171, .ref 171], 0, 0) 3 4 (fun _ => rfl) h) ?_
  have q3 : (pj_fi G0 171 23).toInt = y1.toInt := by rw [show pj_fi G0 171 23 = y1 from hy1.symm]
  have q4 : (pj_fi G0 171 17).toInt = y2.toInt := by rw [show pj_fi G0 171 17 = y2 from hy2.symm]
  refine pj_X_ca (vs := [.ref 171, .int many]) rfl (fun _ => rfl) ⟨Nat.le_of_ble_eq_true rfl, Nat.le_of_ble_eq_true rfl, pj_T_rcv hI rfl⟩ ⟨rfl, rfl⟩ (pj_Y_up (by decide) (ct_187 G0 hI many ⟨by omega, by omega⟩)) ?_
  rintro _ G6 ⟨y5, rfl, iG6, jG6, ry5, ey5⟩
  have kG6 : pj_kpt kc_189 G0 G6 := pj_kpt_t hK (pj_kpt_s jG6 rfl)
  have q7 : (pj_fi G6 171 23).toInt = (pj_fi G0 171 23).toInt := by rw [jG6.1 (171, 23) (by decide)]
  obtain ⟨y8, hy8⟩ : ∃ z : Int32, z = pj_fi G6 171 23 := ⟨_, rfl⟩
  have ey8 : (pj_fi G6 171 23).toInt = y8.toInt := by rw [hy8]
  have ry8 : (-1 : Int) ≤ y8.toInt ∧ y8.toInt ≤ 7 := by rw [hy8]; exact iG6.2.1 171 23 (-1, 7) rfl
  obtain ⟨y9, hy9⟩ : ∃ z : Int32, z = pj_fi G6 171 17 := ⟨_, rfl⟩
  have ey9 : (pj_fi G6 171 17).toInt = y9.toInt := by rw [hy9]
  have ry9 : (0 : Int) ≤ y9.toInt ∧ y9.toInt ≤ 80 := by rw [hy9]; exact iG6.2.1 171 17 (0, 80) rfl
  show pj_X _ _ G6 6 [(0, .ref 171), (1, .int many)] [.int y5, .ref 171] _
  refine pj_X_of (fun r h => pj_T_pf iG6 rfl rfl rfl h) ?_
  show pj_X _ _ (pj_wv G6 171 23 (.int y5)) 9 [(0, .ref 171), (1, .int many)] [] _
  obtain ⟨G10, hG10⟩ : ∃ H, H = pj_wv G6 171 23 (.int y5) := ⟨_, rfl⟩
  have iG10 : pj_Inv G10 := by rw [hG10]; exact pj_Inv_wi iG6 (ci := 12) rfl (fun q hq => by cases hq; exact ⟨by show (-1 : Int) ≤ _; omega, by show _ ≤ (7 : Int); omega⟩)
  have kG10 : pj_kpt kc_189 G0 G10 := by rw [hG10]; exact pj_kpt_v kG6 rfl
  rw [← hG10]
  refine pj_X_of (fun r h => pj_R_to (G10, 10, [(0, .ref 171), (1, .int many)], [.ref 171], 0, 0) 10 2 (fun _ => rfl) h) ?_
  refine pj_X_of (fun r h => pj_T_gi iG10 rfl rfl h) ?_
  show pj_X _ _ G10 13 [(0, .ref 171), (1, .int many)] [.int (pj_fi G10 171 23)] _
  refine pj_X_eqi (show pj_fi G10 171 23 = y5 from by rw [hG10]; exact pj_fi_wi iG6.1 (ci := 12) rfl _) ?_
  cases b11 : pj_c1 .lt y5 0 with
  | true =>
    have ub11 := pj_u0_ltT b11
    refine pj_X_of (fun r h => pj_R_ifT 46 rfl rfl b11 h) ?_
    refine pj_X_of (fun r h => pj_R_to (G10, 47, [(0, .ref 171), (1, .int many)], [.int (Int32.ofInt (-1))], 0, 0) 47 2 (fun _ => rfl) h) ?_
    have q12 : (pj_fi G10 171 23).toInt = y5.toInt := by rw [show pj_fi G10 171 23 = y5 from by rw [hG10]; exact pj_fi_wi iG6.1 (ci := 12) rfl _]
    have q13 : (pj_fi G10 171 17).toInt = y9.toInt := by rw [show pj_fi G10 171 17 = y9 from by rw [hG10, pj_fi_wv_ne _ _ _ _ _ _ (by decide)]; exact hy9.symm]
    exact pj_X_rt rfl rfl ⟨_, rfl, iG10, kG10, ⟨by omega, by omega⟩, by omega⟩
  | false =>
    have ub11 := pj_u0_ltF b11
    refine pj_X_of (fun r h => pj_R_ifF rfl b11 h) ?_
    refine pj_X_of (fun r h => pj_R_to (G10, 17, [(0, .ref 171), (1, .int many)], [.ref 171], 0, 0) 17 2 (fun _ => rfl) h) ?_
    refine pj_X_of (fun r h => pj_T_gi iG10 rfl rfl h) ?_
    show pj_X _ _ G10 20 [(0, .ref 171), (1, .int many)] [.int (pj_fi G10 171 17)] _
    refine pj_X_eqi (show pj_fi G10 171 17 = y9 from by rw [hG10, pj_fi_wv_ne _ _ _ _ _ _ (by decide)]; exact hy9.symm) ?_
    refine pj_X_of (fun r h => pj_R_to (G10, 21, [(0, .ref 171), (1, .int many)], [.ref 171, .int y9], 0, 0) 21 2 (fun _ => rfl) h) ?_
    refine pj_X_of (fun r h => pj_T_gi iG10 rfl rfl h) ?_
    show pj_X _ _ G10 24 [(0, .ref 171), (1, .int many)] [.int (pj_fi G10 171 18), .int y9] _
    obtain ⟨y14, hy14⟩ : ∃ z : Int32, z = pj_fi G10 171 18 := ⟨_, rfl⟩
    refine pj_X_eqi hy14.symm ?_
    have ey14 : (pj_fi G10 171 18).toInt = y14.toInt := by rw [hy14]
    have ry14 : (0 : Int) ≤ y14.toInt ∧ y14.toInt ≤ 80 := by rw [hy14]; exact iG10.2.1 171 18 (0, 80) rfl
    cases b15 : pj_c1 .ge y9 y14 with
    | true =>
      have ub15 := pj_u_geT b15
      refine pj_X_of (fun r h => pj_R_icT 48 rfl rfl b15 h) ?_
      refine pj_X_of (fun r h => pj_R_to (G10, 50, [(0, .ref 171), (1, .int many)], [.int many, .ref 171], 0, 0) 50 3 (fun _ => rfl) h) ?_
      have q16 : (pj_fi G10 171 23).toInt = y5.toInt := by rw [show pj_fi G10 171 23 = y5 from by rw [hG10]; exact pj_fi_wi iG6.1 (ci := 12) rfl _]
      have q17 : (pj_fi G10 171 17).toInt = y9.toInt := by rw [show pj_fi G10 171 17 = y9 from by rw [hG10, pj_fi_wv_ne _ _ _ _ _ _ (by decide)]; exact hy9.symm]
      refine pj_X_ca (vs := [.ref 171, .int many]) rfl (fun _ => rfl) ⟨Nat.le_of_ble_eq_true rfl, Nat.le_of_ble_eq_true rfl, pj_T_rcv iG10 rfl⟩ ⟨rfl, rfl⟩ (pj_Y_up (by decide) (ct_187 G10 iG10 many ⟨by omega, by omega⟩)) ?_
      rintro _ G19 ⟨y18, rfl, iG19, jG19, ry18, ey18⟩
      have kG19 : pj_kpt kc_189 G0 G19 := pj_kpt_t kG10 (pj_kpt_s jG19 rfl)
      have q20 : (pj_fi G19 171 23).toInt = (pj_fi G10 171 23).toInt := by rw [jG19.1 (171, 23) (by decide)]
      obtain ⟨y21, hy21⟩ : ∃ z : Int32, z = pj_fi G19 171 23 := ⟨_, rfl⟩
      have ey21 : (pj_fi G19 171 23).toInt = y21.toInt := by rw [hy21]
      have ry21 : (-1 : Int) ≤ y21.toInt ∧ y21.toInt ≤ 7 := by rw [hy21]; exact iG19.2.1 171 23 (-1, 7) rfl
      obtain ⟨y22, hy22⟩ : ∃ z : Int32, z = pj_fi G19 171 17 := ⟨_, rfl⟩
      have ey22 : (pj_fi G19 171 17).toInt = y22.toInt := by rw [hy22]
      have ry22 : (0 : Int) ≤ y22.toInt ∧ y22.toInt ≤ 80 := by rw [hy22]; exact iG19.2.1 171 17 (0, 80) rfl
      show pj_X _ _ G19 53 [(0, .ref 171), (1, .int many)] [.int y18] _
      have q23 : (pj_fi G19 171 23).toInt = y21.toInt := by rw [show pj_fi G19 171 23 = y21 from hy21.symm]
      have q24 : (pj_fi G19 171 17).toInt = y22.toInt := by rw [show pj_fi G19 171 17 = y22 from hy22.symm]
      exact pj_X_rt rfl rfl ⟨_, rfl, iG19, kG19, ⟨by omega, by omega⟩, by omega⟩
    | false =>
      have ub15 := pj_u_geF b15
      refine pj_X_of (fun r h => pj_R_icF rfl b15 h) ?_
      refine pj_X_of (fun r h => pj_R_to (G10, 28, [(0, .ref 171), (1, .int many)], [.ref 171], 0, 0) 28 2 (fun _ => rfl) h) ?_
      refine pj_X_of (fun r h => pj_T_gr iG10 rfl rfl rfl h) ?_
      refine pj_X_of (fun r h => pj_R_to (G10, 32, [(0, .ref 171), (1, .int many)], [.ref 171, .ref 180], 0, 0) 32 2 (fun _ => rfl) h) ?_
      refine pj_X_of (fun r h => pj_T_gi iG10 rfl rfl h) ?_
      show pj_X _ _ G10 35 [(0, .ref 171), (1, .int many)] [.int (pj_fi G10 171 17), .ref 180] _
      refine pj_X_eqi (show pj_fi G10 171 17 = y9 from by rw [hG10, pj_fi_wv_ne _ _ _ _ _ _ (by decide)]; exact hy9.symm) ?_
      refine pj_X_of (fun r h => pj_T_il iG10 rfl rfl (by omega) (by omega) h) ?_
      show pj_X _ _ G10 36 [(0, .ref 171), (1, .int many)] [.int (pj_ai G10 180 y9.toInt.toNat)] _
      obtain ⟨z25, hz25⟩ : ∃ z : Int32, z = pj_ai G10 180 y9.toInt.toNat := ⟨_, rfl⟩
      refine pj_X_eqi hz25.symm ?_
      have ez25 : (pj_ai G10 180 y9.toInt.toNat).toInt = z25.toInt := by rw [hz25]
      have fz25_0 : (0 : Int) ≤ z25.toInt ∧ z25.toInt ≤ 255 ∧ (z25.toInt ≤ 0 ∨ 0 ≤ z25.toInt) := by rw [hz25]; exact iG10.2.2.1 180 (80, 0, 255, 0, 0) rfl _ (by show _ < 80; omega)
      have gz25 : (pj_ai G10 180 (pj_fi G10 171 17).toInt.toNat).toInt = z25.toInt := by rw [show pj_fi G10 171 17 = y9 from by rw [hG10, pj_fi_wv_ne _ _ _ _ _ _ (by decide)]; exact hy9.symm, hz25]
      refine pj_X_of (fun r h => pj_R_to (G10, 39, [(0, .ref 171), (1, .int many)], [.ref 171, .int ((Int8.ofInt 97).toInt32), .int z25], 0, 0) 39 3 (fun _ => rfl) h) ?_
      refine pj_X_of (fun r h => pj_T_gi iG10 rfl rfl h) ?_
      show pj_X _ _ G10 42 [(0, .ref 171), (1, .int many)] [.int (pj_fi G10 171 23), .int ((Int8.ofInt 97).toInt32), .int z25] _
      refine pj_X_eqi (show pj_fi G10 171 23 = y5 from by rw [hG10]; exact pj_fi_wi iG6.1 (ci := 12) rfl _) ?_
      refine pj_X_of (fun r h => pj_R_to (G10, 43, [(0, .ref 171), (1, .int many)], [.int (((Int8.ofInt 97).toInt32) + y5), .int z25], 0, 0) 43 2 (fun _ => rfl) h) ?_
      obtain ⟨z26, hz26⟩ : ∃ z : Int32, z = ((Int8.ofInt 97).toInt32) + y5 := ⟨_, rfl⟩
      refine pj_X_eqi hz26.symm ?_
      have fz26_0 : z26.toInt = ((Int8.ofInt 97).toInt32).toInt + y5.toInt := by rw [hz26]; exact pj_addI (by have := pj_i32 ((Int8.ofInt 97).toInt32); have := pj_i32 y5; omega) (by have := pj_i32 ((Int8.ofInt 97).toInt32); have := pj_i32 y5; omega)
      cases b27 : pj_c1 .ne z25 z26 with
      | true =>
        have ub27 := pj_u_neT b27
        refine pj_X_of (fun r h => pj_R_icT 48 rfl rfl b27 h) ?_
        refine pj_X_of (fun r h => pj_R_to (G10, 50, [(0, .ref 171), (1, .int many)], [.int many, .ref 171], 0, 0) 50 3 (fun _ => rfl) h) ?_
        have q28 : (pj_fi G10 171 23).toInt = y5.toInt := by rw [show pj_fi G10 171 23 = y5 from by rw [hG10]; exact pj_fi_wi iG6.1 (ci := 12) rfl _]
        have q29 : (pj_fi G10 171 17).toInt = y9.toInt := by rw [show pj_fi G10 171 17 = y9 from by rw [hG10, pj_fi_wv_ne _ _ _ _ _ _ (by decide)]; exact hy9.symm]
        refine pj_X_ca (vs := [.ref 171, .int many]) rfl (fun _ => rfl) ⟨Nat.le_of_ble_eq_true rfl, Nat.le_of_ble_eq_true rfl, pj_T_rcv iG10 rfl⟩ ⟨rfl, rfl⟩ (pj_Y_up (by decide) (ct_187 G10 iG10 many ⟨by omega, by omega⟩)) ?_
        rintro _ G31 ⟨y30, rfl, iG31, jG31, ry30, ey30⟩
        have kG31 : pj_kpt kc_189 G0 G31 := pj_kpt_t kG10 (pj_kpt_s jG31 rfl)
        have q32 : (pj_fi G31 171 23).toInt = (pj_fi G10 171 23).toInt := by rw [jG31.1 (171, 23) (by decide)]
        obtain ⟨y33, hy33⟩ : ∃ z : Int32, z = pj_fi G31 171 23 := ⟨_, rfl⟩
        have ey33 : (pj_fi G31 171 23).toInt = y33.toInt := by rw [hy33]
        have ry33 : (-1 : Int) ≤ y33.toInt ∧ y33.toInt ≤ 7 := by rw [hy33]; exact iG31.2.1 171 23 (-1, 7) rfl
        obtain ⟨y34, hy34⟩ : ∃ z : Int32, z = pj_fi G31 171 17 := ⟨_, rfl⟩
        have ey34 : (pj_fi G31 171 17).toInt = y34.toInt := by rw [hy34]
        have ry34 : (0 : Int) ≤ y34.toInt ∧ y34.toInt ≤ 80 := by rw [hy34]; exact iG31.2.1 171 17 (0, 80) rfl
        show pj_X _ _ G31 53 [(0, .ref 171), (1, .int many)] [.int y30] _
        have q35 : (pj_fi G31 171 23).toInt = y33.toInt := by rw [show pj_fi G31 171 23 = y33 from hy33.symm]
        have q36 : (pj_fi G31 171 17).toInt = y34.toInt := by rw [show pj_fi G31 171 17 = y34 from hy34.symm]
        exact pj_X_rt rfl rfl ⟨_, rfl, iG31, kG31, ⟨by omega, by omega⟩, by omega⟩
      | false =>
        have ub27 := pj_u_neF b27
        refine pj_X_of (fun r h => pj_R_icF rfl b27 h) ?_
        refine pj_X_of (fun r h => pj_R_to (G10, 47, [(0, .ref 171), (1, .int many)], [.int (Int32.ofInt (-1))], 0, 0) 47 2 (fun _ => rfl) h) ?_
        have q37 : (pj_fi G10 171 23).toInt = y5.toInt := by rw [show pj_fi G10 171 23 = y5 from by rw [hG10]; exact pj_fi_wi iG6.1 (ci := 12) rfl _]
        have q38 : (pj_fi G10 171 17).toInt = y9.toInt := by rw [show pj_fi G10 171 17 = y9 from by rw [hG10, pj_fi_wv_ne _ _ _ _ _ _ (by decide)]; exact hy9.symm]
        exact pj_X_rt rfl rfl ⟨_, rfl, iG10, kG10, ⟨by omega, by omega⟩, by omega⟩
