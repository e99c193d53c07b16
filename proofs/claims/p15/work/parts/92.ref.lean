def pj_bit (s c : Int32) : Prop := (s >>> (c &&& 31)) &&& 1 = 1
theorem pj_bit0 {c : Int32} : ¬ pj_bit (Int32.ofInt 0) c := by
  intro h
  unfold pj_bit at h
  have h := congrArg Int32.toBitVec h
  rw [Int32.toBitVec_and, Int32.toBitVec_shiftRight] at h
  rw [show (Int32.ofInt 0).toBitVec = 0#32 by decide] at h
  simp at h
theorem pj_bv1 {x : BitVec 32} : x &&& 1#32 = 1#32 ↔ x.getLsbD 0 = true := by
  constructor
  · intro h
    have := congrArg (fun y => y.getLsbD 0) h
    simpa using this
  · intro h
    apply BitVec.eq_of_getLsbD_eq
    intro i hi
    rw [BitVec.getLsbD_and]
    by_cases e : i = 0
    · subst e
      simp [h]
    · have : (1#32).getLsbD i = false := by
        rw [BitVec.getLsbD_one]
        simp [e]
      simp [this]
theorem pj_bit_i {s c : Int32} (h2 : 0 ≤ c.toInt) (h3 : c.toInt ≤ 9) : pj_bit s c ↔ s.toBitVec.getLsbD c.toInt.toNat = true := by
  have e0 : pj_bit s c ↔ (s.toBitVec.sshiftRight' ((c &&& 31).toBitVec.smod 32)) &&& 1#32 = 1#32 := by
    unfold pj_bit
    constructor
    · intro h
      have h := congrArg Int32.toBitVec h
      rw [Int32.toBitVec_and, Int32.toBitVec_shiftRight] at h
      exact h
    · intro h
      apply Int32.toBitVec_inj.mp
      rw [Int32.toBitVec_and, Int32.toBitVec_shiftRight]
      exact h
  rw [e0, pj_bv1]
  have key : ∀ k : Nat, k < 10 → (Int32.ofInt k &&& 31).toBitVec.smod 32 = BitVec.ofNat 32 k := by decide
  have hc : c = Int32.ofInt (c.toInt.toNat : Nat) := by
    rw [Int.toNat_of_nonneg h2]
    exact (Int32.ofInt_toInt c).symm
  have e1 : (c &&& 31).toBitVec.smod 32 = BitVec.ofNat 32 c.toInt.toNat := by
    conv => lhs; rw [hc]
    exact key _ (by omega)
  rw [e1, BitVec.sshiftRight']
  rw [BitVec.getLsbD_sshiftRight]
  have e2 : (BitVec.ofNat 32 c.toInt.toNat).toNat = c.toInt.toNat := by
    rw [BitVec.toNat_ofNat]
    omega
  rw [e2]
  have : c.toInt.toNat < 32 := by omega
  have e3 : c.toNatClampNeg = c.toInt.toNat := rfl
  simp [this]
  intro q
  exfalso
  omega
theorem pj_bit_or {s a c : Int32} (h0 : 0 ≤ a.toInt) (h1 : a.toInt ≤ 9) (h2 : 0 ≤ c.toInt) (h3 : c.toInt ≤ 9) (h : pj_bit (s ||| (Int32.ofInt 1 <<< (a &&& 31))) c) : c.toInt = a.toInt ∨ pj_bit s c := by
  rw [pj_bit_i h2 h3] at h
  rw [Int32.toBitVec_or, BitVec.getLsbD_or] at h
  rw [Bool.or_eq_true] at h
  rcases h with h | h
  · exact Or.inr ((pj_bit_i h2 h3).mpr h)
  · refine Or.inl ?_
    have key : ∀ a : Nat, a < 10 → ∀ c : Nat, c < 10 → (Int32.ofInt 1 <<< (Int32.ofInt a &&& 31)).toBitVec.getLsbD c = true → c = a := by decide
    have ha : a = Int32.ofInt (a.toInt.toNat : Nat) := by
      rw [Int.toNat_of_nonneg h0]
      exact (Int32.ofInt_toInt a).symm
    rw [ha] at h
    have := key a.toInt.toNat (by omega) c.toInt.toNat (by omega) h
    omega
theorem pj_bit_of {s c y : Int32} (h : y = (s >>> (c &&& 31)) &&& Int32.ofInt 1) (e : y.toInt = 1) : pj_bit s c := by
  have e1 : y = 1 := Int32.toInt_inj.mp (by rw [e]; decide)
  unfold pj_bit
  rw [show (1 : Int32) = Int32.ofInt 1 by decide, ← h, e1]
  decide
/-- where a set of crossings has one, a bridge of the first n lies there, its hours yet no more than h -/
def pj_oin (G : pj_G) (s : Int32) (n : Int) (h : Int32) : Prop := ∀ c : Int32, 0 ≤ c.toInt → c.toInt ≤ 9 → pj_bit s c → ∃ b : Nat, (b : Int) < n ∧ (pj_ai G 179 (4 * b)).toInt = c.toInt ∧ (pj_ai G 179 (4 * b + 1)).toInt ≤ h.toInt
theorem pj_oin_z {G : pj_G} {n : Int} {h : Int32} : pj_oin G (Int32.ofInt 0) n h := fun c _ _ hb => absurd hb pj_bit0
theorem pj_oin_m {G : pj_G} {s h : Int32} {n n' : Int} (q : pj_oin G s n h) (hn : n ≤ n') : pj_oin G s n' h := fun c h0 h1 hb => by
  obtain ⟨b, h2, h3⟩ := q c h0 h1 hb
  exact ⟨b, by omega, h3⟩
theorem pj_oin_0 {G : pj_G} {s s' h : Int32} {n n' : Int} (e : s' = s ||| Int32.ofInt 0) (q : pj_oin G s n h) (hn : n ≤ n') : pj_oin G s' n' h := by
  have e2 : s' = s := by
    rw [e]
    apply Int32.toBitVec_inj.mp
    rw [Int32.toBitVec_or]
    show s.toBitVec ||| 0#32 = _
    simp
  rw [e2]
  exact pj_oin_m q hn
theorem pj_oin_1 {G : pj_G} {s s' x c h : Int32} {n n' : Int} (e : s' = s ||| x) (ex : x = Int32.ofInt 1 <<< (c &&& 31)) (hc0 : 0 ≤ c.toInt) (hc9 : c.toInt ≤ 9) (q : pj_oin G s n h) (hn : n' = n + 1) (b : Nat) (hb : (b : Int) = n) (ha : (pj_ai G 179 (4 * b)).toInt = c.toInt) (hy : (pj_ai G 179 (4 * b + 1)).toInt ≤ h.toInt) : pj_oin G s' n' h := by
  intro c' h0 h1 hbit
  rw [e, ex] at hbit
  rcases pj_bit_or hc0 hc9 h0 h1 hbit with e1 | e1
  · exact ⟨b, by omega, by rw [ha, e1], hy⟩
  · obtain ⟨b2, h2, h3⟩ := q c' h0 h1 e1
    exact ⟨b2, by omega, h3⟩
def pj_nb (G : pj_G) (c is : Int32) (n : Int) : Prop := ∀ b : Nat, (b : Int) < n → (pj_ai G 179 (4 * b)).toInt = c.toInt → 1 ≤ is.toInt → (pj_ai G 179 (4 * b + 1)).toInt ≠ 0
theorem pj_nb_s {G : pj_G} {c is : Int32} {n n' : Int} (q : pj_nb G c is n) (hn : n' = n + 1) (b : Nat) (hb : (b : Int) = n) (h : (pj_ai G 179 (4 * b)).toInt = c.toInt → 1 ≤ is.toInt → (pj_ai G 179 (4 * b + 1)).toInt ≠ 0) : pj_nb G c is n' := by
  intro b2 h2
  by_cases e : b2 = b
  · subst e
    exact h
  · exact q b2 (by omega)
theorem pj_ob {G : pj_G} {s c is y hr : Int32} {n : Int} (hI : pj_Inv G) (h1 : pj_oin G s n hr) (hn : n ≤ 6) (hh : hr.toInt = 0) (h2 : pj_bit s c) (c0 : 0 ≤ c.toInt) (c9 : c.toInt ≤ 9) (h3 : y.toInt < 0 → pj_nb G c is n) (his : 1 ≤ is.toInt) : 0 ≤ y.toInt := by
  apply Classical.byContradiction
  intro q
  obtain ⟨b, hb, e1, e2⟩ := h1 c c0 c9 h2
  have h4 := h3 (by omega) b hb e1 his
  have h5 := (hI.2.2.2 179 32 rfl (4 * b + 1) (by omega)).1 (by omega)
  have h6 := h5.2 (by omega)
  omega
noncomputable def F_172bx (G0 : pj_G) (s : Int32) (k : Int32) : Int32 := pj_nm (s >>> (k &&& 31)) (fun z1 => pj_nm (z1 &&& (Int32.ofInt 1)) (fun z2 => cond (pj_c1 .ne z2 (Int32.ofInt 1)) (Int32.ofInt 0) (Int32.ofInt 1)))
theorem F_172bx_e (G0 : pj_G) (s : Int32) (k : Int32) : F_172bx G0 s k = pj_nm (s >>> (k &&& 31)) (fun z1 => pj_nm (z1 &&& (Int32.ofInt 1)) (fun z2 => cond (pj_c1 .ne z2 (Int32.ofInt 1)) (Int32.ofInt 0) (Int32.ofInt 1))) := rfl
theorem ct_171bx (G0 : pj_G) (hI : pj_Inv G0) (s : Int32) (k : Int32) : pj_Y 1 171 [.int s, .int k] G0 (fun v' G' => ∃ y : Int32, v' = some (.int y) ∧ G0 = G' ∧ ((0 : Int) ≤ y.toInt ∧ y.toInt ≤ 1) ∧ (1 ≤ y.toInt → pj_bit s k) ∧ (y = F_172bx G0 s k)) := by
  have c0_ : (Int32.ofInt 0).toInt = 0 := by decide
  have c1_ : (Int32.ofInt 1).toInt = 1 := by decide
  refine pj_Y_X (M := pj_m171) rfl rfl (Nat.le_of_ble_eq_true rfl) ?_
  have hK : pj_kpt ([], [], []) G0 G0 := pj_kpt_r _ _
  show pj_X _ _ G0 0 [(0, .int s), (1, .int k)] [] _
  rw [F_172bx_e]
  refine pj_X_of (fun r h => pj_R_to (G0, 3, [(0, .int s), (1, .int k)], [.int (s >>> (k &&& 31))], 0, 0) 3 4 (fun _ => rfl) h) ?_
  obtain ⟨z1, hz1⟩ : ∃ z : Int32, z = s >>> (k &&& 31) := ⟨_, rfl⟩
  refine pj_X_eqi hz1.symm ?_
  rw [← hz1, pj_nm_e]
  refine pj_X_of (fun r h => pj_R_to (G0, 5, [(0, .int s), (1, .int k)], [.int (z1 &&& (Int32.ofInt 1))], 0, 0) 5 3 (fun _ => rfl) h) ?_
  obtain ⟨z2, hz2⟩ : ∃ z : Int32, z = z1 &&& (Int32.ofInt 1) := ⟨_, rfl⟩
  refine pj_X_eqi hz2.symm ?_
  rw [← hz2, pj_nm_e]
  have fz2_0 : 0 ≤ z2.toInt ∧ z2.toInt ≤ (Int32.ofInt 1).toInt := by rw [hz2]; exact pj_andI (by omega)
  refine pj_X_of (fun r h => pj_R_to (G0, 6, [(0, .int s), (1, .int k)], [.int (Int32.ofInt 1), .int z2], 0, 0) 6 2 (fun _ => rfl) h) ?_
  cases b3 : pj_c1 .ne z2 (Int32.ofInt 1) with
  | true =>
    rw [pj_cT]
    have ub3 := pj_u_neT b3
    refine pj_X_of (fun r h => pj_R_icT 13 rfl rfl b3 h) ?_
    refine pj_X_of (fun r h => pj_R_to (G0, 14, [(0, .int s), (1, .int k)], [.int (Int32.ofInt 0)], 0, 0) 14 2 (fun _ => rfl) h) ?_
    exact pj_X_rt rfl rfl ⟨_, rfl, rfl, ⟨by omega, by omega⟩, (fun e1 => pj_bit_of (y := z2) (by rw [hz2, hz1]) (by omega)), rfl⟩
  | false =>
    rw [pj_cF]
    have ub3 := pj_u_neF b3
    refine pj_X_of (fun r h => pj_R_icF rfl b3 h) ?_
    refine pj_X_of (fun r h => pj_R_to (G0, 14, [(0, .int s), (1, .int k)], [.int (Int32.ofInt 1)], 0, 0) 14 3 (fun _ => rfl) h) ?_
    exact pj_X_rt rfl rfl ⟨_, rfl, rfl, ⟨by omega, by omega⟩, (fun e1 => pj_bit_of (y := z2) (by rw [hz2, hz1]) (by omega)), rfl⟩
theorem fr_172bx (G0 : pj_G) (hI : pj_Inv G0) (s : Int32) (k : Int32) : ((0 : Int) ≤ (F_172bx G0 s k).toInt ∧ (F_172bx G0 s k).toInt ≤ 1) ∧ (1 ≤ (F_172bx G0 s k).toInt → pj_bit s k) := by
  obtain ⟨v, G', -, y, -, rfl, r, x, e⟩ := ct_171bx G0 hI s k
  rw [← e]
  exact ⟨r, x⟩
noncomputable def L_206x (G0 : pj_G) (c : Int32) (is : Int32) (fu : Nat) : Int32 → Int32 := Nat.rec (motive := fun _ => Int32 → Int32) (fun _ => 0) (fun _ ih v3 => pj_nm (pj_fi G0 171 5) (fun y1 => cond (pj_c1 .ge v3 y1) (Int32.ofInt (-1)) (pj_nm ((Int32.ofInt 4) * v3) (fun z4 => pj_nm (z4 + (Int32.ofInt 0)) (fun z5 => pj_nm (pj_ai G0 179 z5.toInt.toNat) (fun z6 => cond (pj_c1 .ne z6 c) (pj_nm (v3 + Int32.ofInt 1) (fun z8 => ih z8)) (pj_nm (z4 + (Int32.ofInt 1)) (fun z11 => pj_nm (pj_ai G0 179 z11.toInt.toNat) (fun z12 => cond (pj_c1 .ne z12 0) (cond (pj_c1 .ne (Int32.ofInt 0) is) (pj_nm (v3 + Int32.ofInt 1) (fun z15 => ih z15)) (v3)) (cond (pj_c1 .ne (Int32.ofInt 1) is) (pj_nm (v3 + Int32.ofInt 1) (fun z21 => ih z21)) (v3))))))))))) fu
theorem L_206x_s0 (G0 : pj_G) (c : Int32) (is : Int32) (fu : Nat) (v3 : Int32) : L_206x G0 c is (fu + 1) v3 = pj_nm (pj_fi G0 171 5) (fun y1 => cond (pj_c1 .ge v3 y1) (Int32.ofInt (-1)) (pj_nm ((Int32.ofInt 4) * v3) (fun z4 => pj_nm (z4 + (Int32.ofInt 0)) (fun z5 => pj_nm (pj_ai G0 179 z5.toInt.toNat) (fun z6 => cond (pj_c1 .ne z6 c) (pj_nm (v3 + Int32.ofInt 1) (fun z8 => L_206x G0 c is fu z8)) (pj_nm (z4 + (Int32.ofInt 1)) (fun z11 => pj_nm (pj_ai G0 179 z11.toInt.toNat) (fun z12 => cond (pj_c1 .ne z12 0) (cond (pj_c1 .ne (Int32.ofInt 0) is) (pj_nm (v3 + Int32.ofInt 1) (fun z15 => L_206x G0 c is fu z15)) (v3)) (cond (pj_c1 .ne (Int32.ofInt 1) is) (pj_nm (v3 + Int32.ofInt 1) (fun z21 => L_206x G0 c is fu z21)) (v3)))))))))) := rfl
noncomputable def F_206x (G0 : pj_G) (c : Int32) (is : Int32) : Int32 := L_206x G0 c is 7 (Int32.ofInt 0)
theorem F_206x_e (G0 : pj_G) (c : Int32) (is : Int32) : F_206x G0 c is = L_206x G0 c is 7 (Int32.ofInt 0) := rfl
theorem lp_ct_205x (G0 : pj_G) (hI : pj_Inv G0) (c : Int32) (is : Int32) (ris : (0 : Int) ≤ is.toInt ∧ is.toInt ≤ 1) : ∀ mn : Nat, (∀ (v3 : Int32), ((0 : Int) ≤ v3.toInt ∧ v3.toInt ≤ 6) → (pj_nb G0 c is v3.toInt) → (v3.toInt ≤ (pj_fi G0 171 5).toInt) → 6 - v3.toInt < (mn : Int) → pj_X 0 pj_m205 G0 2 [(0, .ref 171), (1, .int c), (2, .int is), (3, .int v3)] [] (fun v' G' => ∃ y : Int32, v' = some (.int y) ∧ G0 = G' ∧ ((-1 : Int) ≤ y.toInt ∧ y.toInt ≤ 5) ∧ (∀ H, G0 = H → ((y.toInt < 0 → pj_nb H c is (pj_fi H 171 5).toInt))) ∧ (y = L_206x G0 c is mn v3))) := by
  have c0_ : (Int32.ofInt (-1)).toInt = -1 := by decide
  have c1_ : (Int32.ofInt 0).toInt = 0 := by decide
  have c2_ : (Int32.ofInt 1).toInt = 1 := by decide
  have c3_ : (Int32.ofInt 4).toInt = 4 := by decide
  have hK : pj_kpt ([], [], []) G0 G0 := pj_kpt_r _ _
  intro mn
  induction mn with
  | zero =>
    intro v3 rv3 x0_ x1_ hm
    exfalso
    omega
  | succ mn ih =>
    intro v3 rv3 x0_ x1_ hm
    rw [L_206x_s0]
    obtain ⟨y1, hy1⟩ : ∃ z : Int32, z = pj_fi G0 171 5 := ⟨_, rfl⟩
    have ey1 : (pj_fi G0 171 5).toInt = y1.toInt := by rw [hy1]
    have ry1 : (0 : Int) ≤ y1.toInt ∧ y1.toInt ≤ 6 := by rw [hy1]; exact hI.2.1 171 5 (0, 6) rfl
    refine pj_X_of (fun r h => pj_R_to (G0, 4, [(0, .ref 171), (1, .int c), (2, .int is), (3, .int v3)], [.ref 171, .int v3], 0, 0) 4 3 (fun _ => rfl) h) ?_
    refine pj_X_of (fun r h => pj_T_gi hI rfl rfl h) ?_
    show pj_X _ _ G0 7 [(0, .ref 171), (1, .int c), (2, .int is), (3, .int v3)] [.int (pj_fi G0 171 5), .int v3] _
    rw [← hy1, pj_nm_e]
    cases b2 : pj_c1 .ge v3 y1 with
    | true =>
      rw [pj_cT]
      have ub2 := pj_u_geT b2
      refine pj_X_of (fun r h => pj_R_icT 54 rfl rfl b2 h) ?_
      refine pj_X_of (fun r h => pj_R_to (G0, 55, [(0, .ref 171), (1, .int c), (2, .int is), (3, .int v3)], [.int (Int32.ofInt (-1))], 0, 0) 55 2 (fun _ => rfl) h) ?_
      have q3 : (pj_fi G0 171 5).toInt = y1.toInt := by rw [show pj_fi G0 171 5 = y1 from hy1.symm]
      exact pj_X_rt rfl rfl ⟨_, rfl, rfl, ⟨by omega, by omega⟩, (fun H hH => by subst hH; exact ((fun q => (by rw [show (pj_fi G0 171 5).toInt = v3.toInt by omega]; exact x0_)))), rfl⟩
    | false =>
      rw [pj_cF]
      have ub2 := pj_u_geF b2
      refine pj_X_of (fun r h => pj_R_icF rfl b2 h) ?_
      refine pj_X_of (fun r h => pj_R_to (G0, 11, [(0, .ref 171), (1, .int c), (2, .int is), (3, .int v3)], [.ref 171], 0, 0) 11 2 (fun _ => rfl) h) ?_
      refine pj_X_of (fun r h => pj_T_gr hI rfl rfl rfl h) ?_
      refine pj_X_of (fun r h => pj_R_to (G0, 17, [(0, .ref 171), (1, .int c), (2, .int is), (3, .int v3)], [.int ((Int32.ofInt 4) * v3), .ref 179], 0, 0) 17 4 (fun _ => rfl) h) ?_
      obtain ⟨z4, hz4⟩ : ∃ z : Int32, z = (Int32.ofInt 4) * v3 := ⟨_, rfl⟩
      refine pj_X_eqi hz4.symm ?_
      rw [← hz4, pj_nm_e]
      have fz4_0 : z4.toInt = 4 * v3.toInt := by rw [hz4]; exact pj_mulL (by decide) (by omega) (by omega)
      refine pj_X_of (fun r h => pj_R_to (G0, 19, [(0, .ref 171), (1, .int c), (2, .int is), (3, .int v3)], [.int (z4 + (Int32.ofInt 0)), .ref 179], 0, 0) 19 3 (fun _ => rfl) h) ?_
      obtain ⟨z5, hz5⟩ : ∃ z : Int32, z = z4 + (Int32.ofInt 0) := ⟨_, rfl⟩
      refine pj_X_eqi hz5.symm ?_
      rw [← hz5, pj_nm_e]
      have fz5_0 : z5.toInt = z4.toInt + (Int32.ofInt 0).toInt := by rw [hz5]; exact pj_addI (by have := pj_i32 z4; have := pj_i32 (Int32.ofInt 0); omega) (by have := pj_i32 z4; have := pj_i32 (Int32.ofInt 0); omega)
      refine pj_X_of (fun r h => pj_T_il hI rfl rfl (by omega) (by omega) h) ?_
      show pj_X _ _ G0 20 [(0, .ref 171), (1, .int c), (2, .int is), (3, .int v3)] [.int (pj_ai G0 179 z5.toInt.toNat)] _
      obtain ⟨z6, hz6⟩ : ∃ z : Int32, z = pj_ai G0 179 z5.toInt.toNat := ⟨_, rfl⟩
      refine pj_X_eqi hz6.symm ?_
      rw [← hz6, pj_nm_e]
      have ez6 : (pj_ai G0 179 z5.toInt.toNat).toInt = z6.toInt := by rw [hz6]
      have fz6_0 : -1 ≤ z6.toInt ∧ z6.toInt ≤ 9 := by rw [hz6]; exact ((hI.2.2.2 179 32 rfl _ (by show _ < 32; omega)).1 (by omega)).1 (by omega)
      refine pj_X_of (fun r h => pj_R_to (G0, 21, [(0, .ref 171), (1, .int c), (2, .int is), (3, .int v3)], [.int c, .int z6], 0, 0) 21 2 (fun _ => rfl) h) ?_
      cases b7 : pj_c1 .ne z6 c with
      | true =>
        rw [pj_cT]
        have ub7 := pj_u_neT b7
        refine pj_X_of (fun r h => pj_R_icT 48 rfl rfl b7 h) ?_
        refine pj_X_of (fun r h => pj_R_to (G0, 51, [(3, .int (v3 + Int32.ofInt 1)), (0, .ref 171), (1, .int c), (2, .int is)], [], 0, 0) 51 2 (fun _ => rfl) h) ?_
        obtain ⟨z8, hz8⟩ : ∃ z : Int32, z = v3 + Int32.ofInt 1 := ⟨_, rfl⟩
        rw [← hz8]
        rw [pj_nm_e]
        have fz8_0 : z8.toInt = v3.toInt + (Int32.ofInt 1).toInt := by rw [hz8]; exact pj_addI (by have := pj_i32 v3; have := pj_i32 (Int32.ofInt 1); omega) (by have := pj_i32 v3; have := pj_i32 (Int32.ofInt 1); omega)
        refine pj_X_of (fun r h => pj_R_to (G0, 2, [(3, .int z8), (0, .ref 171), (1, .int c), (2, .int is)], [], 0, 0) 2 2 (fun _ => rfl) h) ?_
        have q9 : (pj_fi G0 171 5).toInt = y1.toInt := by rw [show pj_fi G0 171 5 = y1 from hy1.symm]
        have k10 : (pj_ai G0 179 (4 * v3.toInt.toNat)).toInt = z6.toInt := by rw [hz6, show z5.toInt.toNat = 4 * v3.toInt.toNat by omega]
        exact pj_X_sub [(0, .ref 171), (1, .int c), (2, .int is), (3, .int z8)] (show List.Nodup [0, 1, 2, 3] by decide) ⟨rfl, rfl, rfl, rfl, trivial⟩ (ih z8 ⟨by omega, by omega⟩ (pj_nb_s x0_ (by omega) v3.toInt.toNat (by omega) (by omega)) (by omega) (by omega))
      | false =>
        rw [pj_cF]
        have ub7 := pj_u_neF b7
        refine pj_X_of (fun r h => pj_R_icF rfl b7 h) ?_
        refine pj_X_of (fun r h => pj_R_to (G0, 25, [(0, .ref 171), (1, .int c), (2, .int is), (3, .int v3)], [.ref 171], 0, 0) 25 2 (fun _ => rfl) h) ?_
        refine pj_X_of (fun r h => pj_T_gr hI rfl rfl rfl h) ?_
        refine pj_X_of (fun r h => pj_R_to (G0, 31, [(0, .ref 171), (1, .int c), (2, .int is), (3, .int v3)], [.int ((Int32.ofInt 4) * v3), .ref 179], 0, 0) 31 4 (fun _ => rfl) h) ?_
        refine pj_X_eqi hz4.symm ?_
        refine pj_X_of (fun r h => pj_R_to (G0, 33, [(0, .ref 171), (1, .int c), (2, .int is), (3, .int v3)], [.int (z4 + (Int32.ofInt 1)), .ref 179], 0, 0) 33 3 (fun _ => rfl) h) ?_
        obtain ⟨z11, hz11⟩ : ∃ z : Int32, z = z4 + (Int32.ofInt 1) := ⟨_, rfl⟩
        refine pj_X_eqi hz11.symm ?_
        rw [← hz11, pj_nm_e]
        have fz11_0 : z11.toInt = z4.toInt + (Int32.ofInt 1).toInt := by rw [hz11]; exact pj_addI (by have := pj_i32 z4; have := pj_i32 (Int32.ofInt 1); omega) (by have := pj_i32 z4; have := pj_i32 (Int32.ofInt 1); omega)
        refine pj_X_of (fun r h => pj_T_il hI rfl rfl (by omega) (by omega) h) ?_
        show pj_X _ _ G0 34 [(0, .ref 171), (1, .int c), (2, .int is), (3, .int v3)] [.int (pj_ai G0 179 z11.toInt.toNat)] _
        obtain ⟨z12, hz12⟩ : ∃ z : Int32, z = pj_ai G0 179 z11.toInt.toNat := ⟨_, rfl⟩
        refine pj_X_eqi hz12.symm ?_
        rw [← hz12, pj_nm_e]
        have ez12 : (pj_ai G0 179 z11.toInt.toNat).toInt = z12.toInt := by rw [hz12]
        have fz12_0 : 0 ≤ z12.toInt := by rw [hz12]; exact ((hI.2.2.2 179 32 rfl _ (by show _ < 32; omega)).1 (by omega)).2 (by omega)
        cases b13 : pj_c1 .ne z12 0 with
        | true =>
          rw [pj_cT]
          have ub13 := pj_u0_neT b13
          refine pj_X_of (fun r h => pj_R_ifT 41 rfl rfl b13 h) ?_
          refine pj_X_of (fun r h => pj_R_to (G0, 43, [(0, .ref 171), (1, .int c), (2, .int is), (3, .int v3)], [.int is, .int (Int32.ofInt 0)], 0, 0) 43 3 (fun _ => rfl) h) ?_
          cases b14 : pj_c1 .ne (Int32.ofInt 0) is with
          | true =>
            rw [pj_cT]
            have ub14 := pj_u_neT b14
            refine pj_X_of (fun r h => pj_R_icT 48 rfl rfl b14 h) ?_
            refine pj_X_of (fun r h => pj_R_to (G0, 51, [(3, .int (v3 + Int32.ofInt 1)), (0, .ref 171), (1, .int c), (2, .int is)], [], 0, 0) 51 2 (fun _ => rfl) h) ?_
            obtain ⟨z15, hz15⟩ : ∃ z : Int32, z = v3 + Int32.ofInt 1 := ⟨_, rfl⟩
            rw [← hz15]
            rw [pj_nm_e]
            have fz15_0 : z15.toInt = v3.toInt + (Int32.ofInt 1).toInt := by rw [hz15]; exact pj_addI (by have := pj_i32 v3; have := pj_i32 (Int32.ofInt 1); omega) (by have := pj_i32 v3; have := pj_i32 (Int32.ofInt 1); omega)
            refine pj_X_of (fun r h => pj_R_to (G0, 2, [(3, .int z15), (0, .ref 171), (1, .int c), (2, .int is)], [], 0, 0) 2 2 (fun _ => rfl) h) ?_
            have q16 : (pj_fi G0 171 5).toInt = y1.toInt := by rw [show pj_fi G0 171 5 = y1 from hy1.symm]
            have k17 : (pj_ai G0 179 (4 * v3.toInt.toNat)).toInt = z6.toInt := by rw [hz6, show z5.toInt.toNat = 4 * v3.toInt.toNat by omega]
            have k18 : (pj_ai G0 179 (4 * v3.toInt.toNat + 1)).toInt = z12.toInt := by rw [hz12, show z11.toInt.toNat = 4 * v3.toInt.toNat + 1 by omega]
            exact pj_X_sub [(0, .ref 171), (1, .int c), (2, .int is), (3, .int z15)] (show List.Nodup [0, 1, 2, 3] by decide) ⟨rfl, rfl, rfl, rfl, trivial⟩ (ih z15 ⟨by omega, by omega⟩ (pj_nb_s x0_ (by omega) v3.toInt.toNat (by omega) (by omega)) (by omega) (by omega))
          | false =>
            rw [pj_cF]
            have ub14 := pj_u_neF b14
            refine pj_X_of (fun r h => pj_R_icF rfl b14 h) ?_
            refine pj_X_of (fun r h => pj_R_to (G0, 47, [(0, .ref 171), (1, .int c), (2, .int is), (3, .int v3)], [.int v3], 0, 0) 47 2 (fun _ => rfl) h) ?_
            have q19 : (pj_fi G0 171 5).toInt = y1.toInt := by rw [show pj_fi G0 171 5 = y1 from hy1.symm]
            exact pj_X_rt rfl rfl ⟨_, rfl, rfl, ⟨by omega, by omega⟩, (fun H hH => by subst hH; exact ((fun q => absurd q (by omega)))), rfl⟩
        | false =>
          rw [pj_cF]
          have ub13 := pj_u0_neF b13
          refine pj_X_of (fun r h => pj_R_ifF rfl b13 h) ?_
          refine pj_X_of (fun r h => pj_R_to (G0, 43, [(0, .ref 171), (1, .int c), (2, .int is), (3, .int v3)], [.int is, .int (Int32.ofInt 1)], 0, 0) 43 4 (fun _ => rfl) h) ?_
          cases b20 : pj_c1 .ne (Int32.ofInt 1) is with
          | true =>
            rw [pj_cT]
            have ub20 := pj_u_neT b20
            refine pj_X_of (fun r h => pj_R_icT 48 rfl rfl b20 h) ?_
            refine pj_X_of (fun r h => pj_R_to (G0, 51, [(3, .int (v3 + Int32.ofInt 1)), (0, .ref 171), (1, .int c), (2, .int is)], [], 0, 0) 51 2 (fun _ => rfl) h) ?_
            obtain ⟨z21, hz21⟩ : ∃ z : Int32, z = v3 + Int32.ofInt 1 := ⟨_, rfl⟩
            rw [← hz21]
            rw [pj_nm_e]
            have fz21_0 : z21.toInt = v3.toInt + (Int32.ofInt 1).toInt := by rw [hz21]; exact pj_addI (by have := pj_i32 v3; have := pj_i32 (Int32.ofInt 1); omega) (by have := pj_i32 v3; have := pj_i32 (Int32.ofInt 1); omega)
            refine pj_X_of (fun r h => pj_R_to (G0, 2, [(3, .int z21), (0, .ref 171), (1, .int c), (2, .int is)], [], 0, 0) 2 2 (fun _ => rfl) h) ?_
            have q22 : (pj_fi G0 171 5).toInt = y1.toInt := by rw [show pj_fi G0 171 5 = y1 from hy1.symm]
            have k23 : (pj_ai G0 179 (4 * v3.toInt.toNat)).toInt = z6.toInt := by rw [hz6, show z5.toInt.toNat = 4 * v3.toInt.toNat by omega]
            have k24 : (pj_ai G0 179 (4 * v3.toInt.toNat + 1)).toInt = z12.toInt := by rw [hz12, show z11.toInt.toNat = 4 * v3.toInt.toNat + 1 by omega]
            exact pj_X_sub [(0, .ref 171), (1, .int c), (2, .int is), (3, .int z21)] (show List.Nodup [0, 1, 2, 3] by decide) ⟨rfl, rfl, rfl, rfl, trivial⟩ (ih z21 ⟨by omega, by omega⟩ (pj_nb_s x0_ (by omega) v3.toInt.toNat (by omega) (by omega)) (by omega) (by omega))
          | false =>
            rw [pj_cF]
            have ub20 := pj_u_neF b20
            refine pj_X_of (fun r h => pj_R_icF rfl b20 h) ?_
            refine pj_X_of (fun r h => pj_R_to (G0, 47, [(0, .ref 171), (1, .int c), (2, .int is), (3, .int v3)], [.int v3], 0, 0) 47 2 (fun _ => rfl) h) ?_
            have q25 : (pj_fi G0 171 5).toInt = y1.toInt := by rw [show pj_fi G0 171 5 = y1 from hy1.symm]
            exact pj_X_rt rfl rfl ⟨_, rfl, rfl, ⟨by omega, by omega⟩, (fun H hH => by subst hH; exact ((fun q => absurd q (by omega)))), rfl⟩
theorem ct_205x (G0 : pj_G) (hI : pj_Inv G0) (c : Int32) (is : Int32) (ris : (0 : Int) ≤ is.toInt ∧ is.toInt ≤ 1) : pj_Y 1 205 [.ref 171, .int c, .int is] G0 (fun v' G' => ∃ y : Int32, v' = some (.int y) ∧ G0 = G' ∧ ((-1 : Int) ≤ y.toInt ∧ y.toInt ≤ 5) ∧ (∀ H, G0 = H → ((y.toInt < 0 → pj_nb H c is (pj_fi H 171 5).toInt))) ∧ (y = F_206x G0 c is)) := by
  have c0_ : (Int32.ofInt (-1)).toInt = -1 := by decide
  have c1_ : (Int32.ofInt 0).toInt = 0 := by decide
  have c2_ : (Int32.ofInt 1).toInt = 1 := by decide
  have c3_ : (Int32.ofInt 4).toInt = 4 := by decide
  refine pj_Y_X (M := pj_m205) rfl rfl (Nat.le_of_ble_eq_true rfl) ?_
  have hK : pj_kpt ([], [], []) G0 G0 := pj_kpt_r _ _
  show pj_X _ _ G0 0 [(0, .ref 171), (1, .int c), (2, .int is)] [] _
  rw [F_206x_e]
  obtain ⟨y26, hy26⟩ : ∃ z : Int32, z = pj_fi G0 171 5 := ⟨_, rfl⟩
  have ey26 : (pj_fi G0 171 5).toInt = y26.toInt := by rw [hy26]
  have ry26 : (0 : Int) ≤ y26.toInt ∧ y26.toInt ≤ 6 := by rw [hy26]; exact hI.2.1 171 5 (0, 6) rfl
  refine pj_X_of (fun r h => pj_R_to (G0, 2, [(3, .int (Int32.ofInt 0)), (0, .ref 171), (1, .int c), (2, .int is)], [], 0, 0) 2 3 (fun _ => rfl) h) ?_
  have q27 : (pj_fi G0 171 5).toInt = y26.toInt := by rw [show pj_fi G0 171 5 = y26 from hy26.symm]
  exact pj_X_sub [(0, .ref 171), (1, .int c), (2, .int is), (3, .int (Int32.ofInt 0))] (show List.Nodup [0, 1, 2, 3] by decide) ⟨rfl, rfl, rfl, rfl, trivial⟩ ((lp_ct_205x G0 hI c is ris 7) (Int32.ofInt 0) ⟨by omega, by omega⟩ (fun b hb => absurd hb (by omega)) (by omega) (by omega))
theorem fr_206x (G0 : pj_G) (hI : pj_Inv G0) (c : Int32) (is : Int32) (ris : (0 : Int) ≤ is.toInt ∧ is.toInt ≤ 1) : ((-1 : Int) ≤ (F_206x G0 c is).toInt ∧ (F_206x G0 c is).toInt ≤ 5) ∧ (((F_206x G0 c is).toInt < 0 → pj_nb G0 c is (pj_fi G0 171 5).toInt)) := by
  obtain ⟨v, G', -, y, -, rfl, r, x, e⟩ := ct_205x G0 hI c is ris
  rw [← e]
  exact ⟨r, x _ rfl⟩
noncomputable def L_207x (G0 : pj_G) (hr : Int32) (w : Int32) (fu : Nat) : Int32 → Int32 → Int32 := Nat.rec (motive := fun _ => Int32 → Int32 → Int32) (fun _ _ => 0) (fun _ ih v3 v4 => pj_nm (pj_fi G0 171 5) (fun y1 => cond (pj_c1 .ge v4 y1) (v3) (pj_nm ((Int32.ofInt 4) * v4) (fun z4 => pj_nm (z4 + (Int32.ofInt 0)) (fun z5 => pj_nm (pj_ai G0 179 z5.toInt.toNat) (fun z6 => cond (pj_c1 .lt z6 0) (pj_nm (v3 ||| (Int32.ofInt 0)) (fun z8 => pj_nm (v4 + Int32.ofInt 1) (fun z9 => ih z8 z9))) (pj_nm (z4 + (Int32.ofInt 1)) (fun z12 => pj_nm (pj_ai G0 179 z12.toInt.toNat) (fun z13 => cond (pj_c1 .gt z13 hr) (pj_nm (v3 ||| (Int32.ofInt 0)) (fun z15 => pj_nm (v4 + Int32.ofInt 1) (fun z16 => ih z15 z16))) (pj_nm (z4 + (Int32.ofInt 3)) (fun z20 => pj_nm (pj_ai G0 179 z20.toInt.toNat) (fun z21 => cond (pj_c1 .lt z21 w) (pj_nm (v3 ||| (Int32.ofInt 0)) (fun z23 => pj_nm (v4 + Int32.ofInt 1) (fun z24 => ih z23 z24))) (pj_nm ((Int32.ofInt 1) <<< (z6 &&& 31)) (fun z29 => pj_nm (v3 ||| z29) (fun z30 => pj_nm (v4 + Int32.ofInt 1) (fun z31 => ih z30 z31)))))))))))))))) fu
theorem L_207x_s0 (G0 : pj_G) (hr : Int32) (w : Int32) (fu : Nat) (v3 : Int32) (v4 : Int32) : L_207x G0 hr w (fu + 1) v3 v4 = pj_nm (pj_fi G0 171 5) (fun y1 => cond (pj_c1 .ge v4 y1) (v3) (pj_nm ((Int32.ofInt 4) * v4) (fun z4 => pj_nm (z4 + (Int32.ofInt 0)) (fun z5 => pj_nm (pj_ai G0 179 z5.toInt.toNat) (fun z6 => cond (pj_c1 .lt z6 0) (pj_nm (v3 ||| (Int32.ofInt 0)) (fun z8 => pj_nm (v4 + Int32.ofInt 1) (fun z9 => L_207x G0 hr w fu z8 z9))) (pj_nm (z4 + (Int32.ofInt 1)) (fun z12 => pj_nm (pj_ai G0 179 z12.toInt.toNat) (fun z13 => cond (pj_c1 .gt z13 hr) (pj_nm (v3 ||| (Int32.ofInt 0)) (fun z15 => pj_nm (v4 + Int32.ofInt 1) (fun z16 => L_207x G0 hr w fu z15 z16))) (pj_nm (z4 + (Int32.ofInt 3)) (fun z20 => pj_nm (pj_ai G0 179 z20.toInt.toNat) (fun z21 => cond (pj_c1 .lt z21 w) (pj_nm (v3 ||| (Int32.ofInt 0)) (fun z23 => pj_nm (v4 + Int32.ofInt 1) (fun z24 => L_207x G0 hr w fu z23 z24))) (pj_nm ((Int32.ofInt 1) <<< (z6 &&& 31)) (fun z29 => pj_nm (v3 ||| z29) (fun z30 => pj_nm (v4 + Int32.ofInt 1) (fun z31 => L_207x G0 hr w fu z30 z31))))))))))))))) := rfl
noncomputable def F_207x (G0 : pj_G) (hr : Int32) (w : Int32) : Int32 := L_207x G0 hr w 7 (Int32.ofInt 0) (Int32.ofInt 0)
theorem F_207x_e (G0 : pj_G) (hr : Int32) (w : Int32) : F_207x G0 hr w = L_207x G0 hr w 7 (Int32.ofInt 0) (Int32.ofInt 0) := rfl
theorem lp_ct_206x (G0 : pj_G) (hI : pj_Inv G0) (hr : Int32) (w : Int32) : ∀ mn : Nat, (∀ (v3 : Int32) (v4 : Int32), ((0 : Int) ≤ v3.toInt ∧ v3.toInt ≤ 1023) → ((0 : Int) ≤ v4.toInt ∧ v4.toInt ≤ 6) → (pj_oin G0 v3 v4.toInt hr) → (v4.toInt ≤ (pj_fi G0 171 5).toInt) → 6 - v4.toInt < (mn : Int) → pj_X 0 pj_m206 G0 5 [(0, .ref 171), (1, .int hr), (2, .int w), (3, .int v3), (4, .int v4)] [] (fun v' G' => ∃ y : Int32, v' = some (.int y) ∧ G0 = G' ∧ ((0 : Int) ≤ y.toInt ∧ y.toInt ≤ 1023) ∧ (∀ H, G0 = H → (pj_oin H y (pj_fi H 171 5).toInt hr)) ∧ (y = L_207x G0 hr w mn v3 v4))) := by
  have c0_ : (Int32.ofInt 0).toInt = 0 := by decide
  have c1_ : (Int32.ofInt 1).toInt = 1 := by decide
  have c2_ : (Int32.ofInt 3).toInt = 3 := by decide
  have c3_ : (Int32.ofInt 4).toInt = 4 := by decide
  have hK : pj_kpt ([], [], []) G0 G0 := pj_kpt_r _ _
  intro mn
  induction mn with
  | zero =>
    intro v3 v4 rv3 rv4 x0_ x1_ hm
    exfalso
    omega
  | succ mn ih =>
    intro v3 v4 rv3 rv4 x0_ x1_ hm
    rw [L_207x_s0]
    obtain ⟨y1, hy1⟩ : ∃ z : Int32, z = pj_fi G0 171 5 := ⟨_, rfl⟩
    have ey1 : (pj_fi G0 171 5).toInt = y1.toInt := by rw [hy1]
    have ry1 : (0 : Int) ≤ y1.toInt ∧ y1.toInt ≤ 6 := by rw [hy1]; exact hI.2.1 171 5 (0, 6) rfl
    refine pj_X_of (fun r h => pj_R_to (G0, 8, [(0, .ref 171), (1, .int hr), (2, .int w), (3, .int v3), (4, .int v4)], [.ref 171, .int v4], 0, 0) 8 3 (fun _ => rfl) h) ?_
    refine pj_X_of (fun r h => pj_T_gi hI rfl rfl h) ?_
    show pj_X _ _ G0 11 [(0, .ref 171), (1, .int hr), (2, .int w), (3, .int v3), (4, .int v4)] [.int (pj_fi G0 171 5), .int v4] _
    rw [← hy1, pj_nm_e]
    cases b2 : pj_c1 .ge v4 y1 with
    | true =>
      rw [pj_cT]
      have ub2 := pj_u_geT b2
      refine pj_X_of (fun r h => pj_R_icT 79 rfl rfl b2 h) ?_
      refine pj_X_of (fun r h => pj_R_to (G0, 80, [(0, .ref 171), (1, .int hr), (2, .int w), (3, .int v3), (4, .int v4)], [.int v3], 0, 0) 80 2 (fun _ => rfl) h) ?_
      have q3 : (pj_fi G0 171 5).toInt = y1.toInt := by rw [show pj_fi G0 171 5 = y1 from hy1.symm]
      exact pj_X_rt rfl rfl ⟨_, rfl, rfl, ⟨by omega, by omega⟩, (fun H hH => by subst hH; exact (pj_oin_m x0_ (by omega))), rfl⟩
    | false =>
      rw [pj_cF]
      have ub2 := pj_u_geF b2
      refine pj_X_of (fun r h => pj_R_icF rfl b2 h) ?_
      refine pj_X_of (fun r h => pj_R_to (G0, 15, [(0, .ref 171), (1, .int hr), (2, .int w), (3, .int v3), (4, .int v4)], [.ref 171], 0, 0) 15 2 (fun _ => rfl) h) ?_
      refine pj_X_of (fun r h => pj_T_gr hI rfl rfl rfl h) ?_
      refine pj_X_of (fun r h => pj_R_to (G0, 22, [(0, .ref 171), (1, .int hr), (2, .int w), (3, .int v3), (4, .int v4)], [.int ((Int32.ofInt 4) * v4), .ref 179], 0, 0) 22 4 (fun _ => rfl) h) ?_
      obtain ⟨z4, hz4⟩ : ∃ z : Int32, z = (Int32.ofInt 4) * v4 := ⟨_, rfl⟩
      refine pj_X_eqi hz4.symm ?_
      rw [← hz4, pj_nm_e]
      have fz4_0 : z4.toInt = 4 * v4.toInt := by rw [hz4]; exact pj_mulL (by decide) (by omega) (by omega)
      refine pj_X_of (fun r h => pj_R_to (G0, 24, [(0, .ref 171), (1, .int hr), (2, .int w), (3, .int v3), (4, .int v4)], [.int (z4 + (Int32.ofInt 0)), .ref 179], 0, 0) 24 3 (fun _ => rfl) h) ?_
      obtain ⟨z5, hz5⟩ : ∃ z : Int32, z = z4 + (Int32.ofInt 0) := ⟨_, rfl⟩
      refine pj_X_eqi hz5.symm ?_
      rw [← hz5, pj_nm_e]
      have fz5_0 : z5.toInt = z4.toInt + (Int32.ofInt 0).toInt := by rw [hz5]; exact pj_addI (by have := pj_i32 z4; have := pj_i32 (Int32.ofInt 0); omega) (by have := pj_i32 z4; have := pj_i32 (Int32.ofInt 0); omega)
      refine pj_X_of (fun r h => pj_T_il hI rfl rfl (by omega) (by omega) h) ?_
      show pj_X _ _ G0 25 [(0, .ref 171), (1, .int hr), (2, .int w), (3, .int v3), (4, .int v4)] [.int (pj_ai G0 179 z5.toInt.toNat)] _
      obtain ⟨z6, hz6⟩ : ∃ z : Int32, z = pj_ai G0 179 z5.toInt.toNat := ⟨_, rfl⟩
      refine pj_X_eqi hz6.symm ?_
      rw [← hz6, pj_nm_e]
      have ez6 : (pj_ai G0 179 z5.toInt.toNat).toInt = z6.toInt := by rw [hz6]
      have fz6_0 : -1 ≤ z6.toInt ∧ z6.toInt ≤ 9 := by rw [hz6]; exact ((hI.2.2.2 179 32 rfl _ (by show _ < 32; omega)).1 (by omega)).1 (by omega)
      refine pj_X_of (fun r h => pj_R_to (G0, 30, [(5, .int z6), (0, .ref 171), (1, .int hr), (2, .int w), (3, .int v3), (4, .int v4)], [.int z6, .int v3], 0, 0) 30 4 (fun _ => rfl) h) ?_
      cases b7 : pj_c1 .lt z6 0 with
      | true =>
        rw [pj_cT]
        have ub7 := pj_u0_ltT b7
        refine pj_X_of (fun r h => pj_R_ifT 70 rfl rfl b7 h) ?_
        refine pj_X_of (fun r h => pj_R_to (G0, 72, [(5, .int z6), (0, .ref 171), (1, .int hr), (2, .int w), (3, .int v3), (4, .int v4)], [.int (v3 ||| (Int32.ofInt 0))], 0, 0) 72 3 (fun _ => rfl) h) ?_
        obtain ⟨z8, hz8⟩ : ∃ z : Int32, z = v3 ||| (Int32.ofInt 0) := ⟨_, rfl⟩
        refine pj_X_eqi hz8.symm ?_
        rw [← hz8, pj_nm_e]
        have fz8_0 : 0 ≤ z8.toInt ∧ z8.toInt ≤ 1023 := by rw [hz8]; exact pj_orI1024 (by omega) (by omega) (by omega) (by omega)
        refine pj_X_of (fun r h => pj_R_to (G0, 76, [(4, .int (v4 + Int32.ofInt 1)), (3, .int z8), (5, .int z6), (0, .ref 171), (1, .int hr), (2, .int w)], [], 0, 0) 76 3 (fun _ => rfl) h) ?_
        obtain ⟨z9, hz9⟩ : ∃ z : Int32, z = v4 + Int32.ofInt 1 := ⟨_, rfl⟩
        rw [← hz9]
        rw [pj_nm_e]
        have fz9_0 : z9.toInt = v4.toInt + (Int32.ofInt 1).toInt := by rw [hz9]; exact pj_addI (by have := pj_i32 v4; have := pj_i32 (Int32.ofInt 1); omega) (by have := pj_i32 v4; have := pj_i32 (Int32.ofInt 1); omega)
        refine pj_X_of (fun r h => pj_R_to (G0, 5, [(4, .int z9), (3, .int z8), (5, .int z6), (0, .ref 171), (1, .int hr), (2, .int w)], [], 0, 0) 5 2 (fun _ => rfl) h) ?_
        have q10 : (pj_fi G0 171 5).toInt = y1.toInt := by rw [show pj_fi G0 171 5 = y1 from hy1.symm]
        have k11 : (pj_ai G0 179 (4 * v4.toInt.toNat)).toInt = z6.toInt := by rw [hz6, show z5.toInt.toNat = 4 * v4.toInt.toNat by omega]
        exact pj_X_sub [(0, .ref 171), (1, .int hr), (2, .int w), (3, .int z8), (4, .int z9)] (show List.Nodup [0, 1, 2, 3, 4] by decide) ⟨rfl, rfl, rfl, rfl, rfl, trivial⟩ (ih z8 z9 ⟨by omega, by omega⟩ ⟨by omega, by omega⟩ (pj_oin_0 hz8 x0_ (by omega)) (by omega) (by omega))
      | false =>
        rw [pj_cF]
        have ub7 := pj_u0_ltF b7
        refine pj_X_of (fun r h => pj_R_ifF rfl b7 h) ?_
        refine pj_X_of (fun r h => pj_R_to (G0, 34, [(5, .int z6), (0, .ref 171), (1, .int hr), (2, .int w), (3, .int v3), (4, .int v4)], [.ref 171, .int v3], 0, 0) 34 2 (fun _ => rfl) h) ?_
        refine pj_X_of (fun r h => pj_T_gr hI rfl rfl rfl h) ?_
        refine pj_X_of (fun r h => pj_R_to (G0, 41, [(5, .int z6), (0, .ref 171), (1, .int hr), (2, .int w), (3, .int v3), (4, .int v4)], [.int ((Int32.ofInt 4) * v4), .ref 179, .int v3], 0, 0) 41 4 (fun _ => rfl) h) ?_
        refine pj_X_eqi hz4.symm ?_
        refine pj_X_of (fun r h => pj_R_to (G0, 43, [(5, .int z6), (0, .ref 171), (1, .int hr), (2, .int w), (3, .int v3), (4, .int v4)], [.int (z4 + (Int32.ofInt 1)), .ref 179, .int v3], 0, 0) 43 3 (fun _ => rfl) h) ?_
        obtain ⟨z12, hz12⟩ : ∃ z : Int32, z = z4 + (Int32.ofInt 1) := ⟨_, rfl⟩
        refine pj_X_eqi hz12.symm ?_
        rw [← hz12, pj_nm_e]
        have fz12_0 : z12.toInt = z4.toInt + (Int32.ofInt 1).toInt := by rw [hz12]; exact pj_addI (by have := pj_i32 z4; have := pj_i32 (Int32.ofInt 1); omega) (by have := pj_i32 z4; have := pj_i32 (Int32.ofInt 1); omega)
        refine pj_X_of (fun r h => pj_T_il hI rfl rfl (by omega) (by omega) h) ?_
        show pj_X _ _ G0 44 [(5, .int z6), (0, .ref 171), (1, .int hr), (2, .int w), (3, .int v3), (4, .int v4)] [.int (pj_ai G0 179 z12.toInt.toNat), .int v3] _
        obtain ⟨z13, hz13⟩ : ∃ z : Int32, z = pj_ai G0 179 z12.toInt.toNat := ⟨_, rfl⟩
        refine pj_X_eqi hz13.symm ?_
        rw [← hz13, pj_nm_e]
        have ez13 : (pj_ai G0 179 z12.toInt.toNat).toInt = z13.toInt := by rw [hz13]
        have fz13_0 : 0 ≤ z13.toInt := by rw [hz13]; exact ((hI.2.2.2 179 32 rfl _ (by show _ < 32; omega)).1 (by omega)).2 (by omega)
        refine pj_X_of (fun r h => pj_R_to (G0, 45, [(5, .int z6), (0, .ref 171), (1, .int hr), (2, .int w), (3, .int v3), (4, .int v4)], [.int hr, .int z13, .int v3], 0, 0) 45 2 (fun _ => rfl) h) ?_
        cases b14 : pj_c1 .gt z13 hr with
        | true =>
          rw [pj_cT]
          have ub14 := pj_u_gtT b14
          refine pj_X_of (fun r h => pj_R_icT 70 rfl rfl b14 h) ?_
          refine pj_X_of (fun r h => pj_R_to (G0, 72, [(5, .int z6), (0, .ref 171), (1, .int hr), (2, .int w), (3, .int v3), (4, .int v4)], [.int (v3 ||| (Int32.ofInt 0))], 0, 0) 72 3 (fun _ => rfl) h) ?_
          obtain ⟨z15, hz15⟩ : ∃ z : Int32, z = v3 ||| (Int32.ofInt 0) := ⟨_, rfl⟩
          refine pj_X_eqi hz15.symm ?_
          rw [← hz15, pj_nm_e]
          have fz15_0 : 0 ≤ z15.toInt ∧ z15.toInt ≤ 1023 := by rw [hz15]; exact pj_orI1024 (by omega) (by omega) (by omega) (by omega)
          refine pj_X_of (fun r h => pj_R_to (G0, 76, [(4, .int (v4 + Int32.ofInt 1)), (3, .int z15), (5, .int z6), (0, .ref 171), (1, .int hr), (2, .int w)], [], 0, 0) 76 3 (fun _ => rfl) h) ?_
          obtain ⟨z16, hz16⟩ : ∃ z : Int32, z = v4 + Int32.ofInt 1 := ⟨_, rfl⟩
          rw [← hz16]
          rw [pj_nm_e]
          have fz16_0 : z16.toInt = v4.toInt + (Int32.ofInt 1).toInt := by rw [hz16]; exact pj_addI (by have := pj_i32 v4; have := pj_i32 (Int32.ofInt 1); omega) (by have := pj_i32 v4; have := pj_i32 (Int32.ofInt 1); omega)
          refine pj_X_of (fun r h => pj_R_to (G0, 5, [(4, .int z16), (3, .int z15), (5, .int z6), (0, .ref 171), (1, .int hr), (2, .int w)], [], 0, 0) 5 2 (fun _ => rfl) h) ?_
          have q17 : (pj_fi G0 171 5).toInt = y1.toInt := by rw [show pj_fi G0 171 5 = y1 from hy1.symm]
          have k18 : (pj_ai G0 179 (4 * v4.toInt.toNat)).toInt = z6.toInt := by rw [hz6, show z5.toInt.toNat = 4 * v4.toInt.toNat by omega]
          have k19 : (pj_ai G0 179 (4 * v4.toInt.toNat + 1)).toInt = z13.toInt := by rw [hz13, show z12.toInt.toNat = 4 * v4.toInt.toNat + 1 by omega]
          exact pj_X_sub [(0, .ref 171), (1, .int hr), (2, .int w), (3, .int z15), (4, .int z16)] (show List.Nodup [0, 1, 2, 3, 4] by decide) ⟨rfl, rfl, rfl, rfl, rfl, trivial⟩ (ih z15 z16 ⟨by omega, by omega⟩ ⟨by omega, by omega⟩ (pj_oin_0 hz15 x0_ (by omega)) (by omega) (by omega))
        | false =>
          rw [pj_cF]
          have ub14 := pj_u_gtF b14
          refine pj_X_of (fun r h => pj_R_icF rfl b14 h) ?_
          refine pj_X_of (fun r h => pj_R_to (G0, 49, [(5, .int z6), (0, .ref 171), (1, .int hr), (2, .int w), (3, .int v3), (4, .int v4)], [.ref 171, .int v3], 0, 0) 49 2 (fun _ => rfl) h) ?_
          refine pj_X_of (fun r h => pj_T_gr hI rfl rfl rfl h) ?_
          refine pj_X_of (fun r h => pj_R_to (G0, 56, [(5, .int z6), (0, .ref 171), (1, .int hr), (2, .int w), (3, .int v3), (4, .int v4)], [.int ((Int32.ofInt 4) * v4), .ref 179, .int v3], 0, 0) 56 4 (fun _ => rfl) h) ?_
          refine pj_X_eqi hz4.symm ?_
          refine pj_X_of (fun r h => pj_R_to (G0, 58, [(5, .int z6), (0, .ref 171), (1, .int hr), (2, .int w), (3, .int v3), (4, .int v4)], [.int (z4 + (Int32.ofInt 3)), .ref 179, .int v3], 0, 0) 58 3 (fun _ => rfl) h) ?_
          obtain ⟨z20, hz20⟩ : ∃ z : Int32, z = z4 + (Int32.ofInt 3) := ⟨_, rfl⟩
          refine pj_X_eqi hz20.symm ?_
          rw [← hz20, pj_nm_e]
          have fz20_0 : z20.toInt = z4.toInt + (Int32.ofInt 3).toInt := by rw [hz20]; exact pj_addI (by have := pj_i32 z4; have := pj_i32 (Int32.ofInt 3); omega) (by have := pj_i32 z4; have := pj_i32 (Int32.ofInt 3); omega)
          refine pj_X_of (fun r h => pj_T_il hI rfl rfl (by omega) (by omega) h) ?_
          show pj_X _ _ G0 59 [(5, .int z6), (0, .ref 171), (1, .int hr), (2, .int w), (3, .int v3), (4, .int v4)] [.int (pj_ai G0 179 z20.toInt.toNat), .int v3] _
          obtain ⟨z21, hz21⟩ : ∃ z : Int32, z = pj_ai G0 179 z20.toInt.toNat := ⟨_, rfl⟩
          refine pj_X_eqi hz21.symm ?_
          rw [← hz21, pj_nm_e]
          have ez21 : (pj_ai G0 179 z20.toInt.toNat).toInt = z21.toInt := by rw [hz21]
          refine pj_X_of (fun r h => pj_R_to (G0, 60, [(5, .int z6), (0, .ref 171), (1, .int hr), (2, .int w), (3, .int v3), (4, .int v4)], [.int w, .int z21, .int v3], 0, 0) 60 2 (fun _ => rfl) h) ?_
          cases b22 : pj_c1 .lt z21 w with
          | true =>
            rw [pj_cT]
            have ub22 := pj_u_ltT b22
            refine pj_X_of (fun r h => pj_R_icT 70 rfl rfl b22 h) ?_
            refine pj_X_of (fun r h => pj_R_to (G0, 72, [(5, .int z6), (0, .ref 171), (1, .int hr), (2, .int w), (3, .int v3), (4, .int v4)], [.int (v3 ||| (Int32.ofInt 0))], 0, 0) 72 3 (fun _ => rfl) h) ?_
            obtain ⟨z23, hz23⟩ : ∃ z : Int32, z = v3 ||| (Int32.ofInt 0) := ⟨_, rfl⟩
            refine pj_X_eqi hz23.symm ?_
            rw [← hz23, pj_nm_e]
            have fz23_0 : 0 ≤ z23.toInt ∧ z23.toInt ≤ 1023 := by rw [hz23]; exact pj_orI1024 (by omega) (by omega) (by omega) (by omega)
            refine pj_X_of (fun r h => pj_R_to (G0, 76, [(4, .int (v4 + Int32.ofInt 1)), (3, .int z23), (5, .int z6), (0, .ref 171), (1, .int hr), (2, .int w)], [], 0, 0) 76 3 (fun _ => rfl) h) ?_
            obtain ⟨z24, hz24⟩ : ∃ z : Int32, z = v4 + Int32.ofInt 1 := ⟨_, rfl⟩
            rw [← hz24]
            rw [pj_nm_e]
            have fz24_0 : z24.toInt = v4.toInt + (Int32.ofInt 1).toInt := by rw [hz24]; exact pj_addI (by have := pj_i32 v4; have := pj_i32 (Int32.ofInt 1); omega) (by have := pj_i32 v4; have := pj_i32 (Int32.ofInt 1); omega)
            refine pj_X_of (fun r h => pj_R_to (G0, 5, [(4, .int z24), (3, .int z23), (5, .int z6), (0, .ref 171), (1, .int hr), (2, .int w)], [], 0, 0) 5 2 (fun _ => rfl) h) ?_
            have q25 : (pj_fi G0 171 5).toInt = y1.toInt := by rw [show pj_fi G0 171 5 = y1 from hy1.symm]
            have k26 : (pj_ai G0 179 (4 * v4.toInt.toNat)).toInt = z6.toInt := by rw [hz6, show z5.toInt.toNat = 4 * v4.toInt.toNat by omega]
            have k27 : (pj_ai G0 179 (4 * v4.toInt.toNat + 1)).toInt = z13.toInt := by rw [hz13, show z12.toInt.toNat = 4 * v4.toInt.toNat + 1 by omega]
            have k28 : (pj_ai G0 179 (4 * v4.toInt.toNat + 3)).toInt = z21.toInt := by rw [hz21, show z20.toInt.toNat = 4 * v4.toInt.toNat + 3 by omega]
            exact pj_X_sub [(0, .ref 171), (1, .int hr), (2, .int w), (3, .int z23), (4, .int z24)] (show List.Nodup [0, 1, 2, 3, 4] by decide) ⟨rfl, rfl, rfl, rfl, rfl, trivial⟩ (ih z23 z24 ⟨by omega, by omega⟩ ⟨by omega, by omega⟩ (pj_oin_0 hz23 x0_ (by omega)) (by omega) (by omega))
          | false =>
            rw [pj_cF]
            have ub22 := pj_u_ltF b22
            refine pj_X_of (fun r h => pj_R_icF rfl b22 h) ?_
            refine pj_X_of (fun r h => pj_R_to (G0, 67, [(5, .int z6), (0, .ref 171), (1, .int hr), (2, .int w), (3, .int v3), (4, .int v4)], [.int ((Int32.ofInt 1) <<< (z6 &&& 31)), .int v3], 0, 0) 67 4 (fun _ => rfl) h) ?_
            obtain ⟨z29, hz29⟩ : ∃ z : Int32, z = (Int32.ofInt 1) <<< (z6 &&& 31) := ⟨_, rfl⟩
            refine pj_X_eqi hz29.symm ?_
            rw [← hz29, pj_nm_e]
            have fz29_0 : 1 ≤ z29.toInt ∧ z29.toInt ≤ 512 := by rw [hz29]; exact pj_shlI9 (by omega) (by omega)
            refine pj_X_of (fun r h => pj_R_to (G0, 72, [(5, .int z6), (0, .ref 171), (1, .int hr), (2, .int w), (3, .int v3), (4, .int v4)], [.int (v3 ||| z29)], 0, 0) 72 3 (fun _ => rfl) h) ?_
            obtain ⟨z30, hz30⟩ : ∃ z : Int32, z = v3 ||| z29 := ⟨_, rfl⟩
            refine pj_X_eqi hz30.symm ?_
            rw [← hz30, pj_nm_e]
            have fz30_0 : 0 ≤ z30.toInt ∧ z30.toInt ≤ 1023 := by rw [hz30]; exact pj_orI1024 (by omega) (by omega) (by omega) (by omega)
            refine pj_X_of (fun r h => pj_R_to (G0, 76, [(4, .int (v4 + Int32.ofInt 1)), (3, .int z30), (5, .int z6), (0, .ref 171), (1, .int hr), (2, .int w)], [], 0, 0) 76 3 (fun _ => rfl) h) ?_
            obtain ⟨z31, hz31⟩ : ∃ z : Int32, z = v4 + Int32.ofInt 1 := ⟨_, rfl⟩
            rw [← hz31]
            rw [pj_nm_e]
            have fz31_0 : z31.toInt = v4.toInt + (Int32.ofInt 1).toInt := by rw [hz31]; exact pj_addI (by have := pj_i32 v4; have := pj_i32 (Int32.ofInt 1); omega) (by have := pj_i32 v4; have := pj_i32 (Int32.ofInt 1); omega)
            refine pj_X_of (fun r h => pj_R_to (G0, 5, [(4, .int z31), (3, .int z30), (5, .int z6), (0, .ref 171), (1, .int hr), (2, .int w)], [], 0, 0) 5 2 (fun _ => rfl) h) ?_
            have q32 : (pj_fi G0 171 5).toInt = y1.toInt := by rw [show pj_fi G0 171 5 = y1 from hy1.symm]
            have k33 : (pj_ai G0 179 (4 * v4.toInt.toNat)).toInt = z6.toInt := by rw [hz6, show z5.toInt.toNat = 4 * v4.toInt.toNat by omega]
            have k34 : (pj_ai G0 179 (4 * v4.toInt.toNat + 1)).toInt = z13.toInt := by rw [hz13, show z12.toInt.toNat = 4 * v4.toInt.toNat + 1 by omega]
            have k35 : (pj_ai G0 179 (4 * v4.toInt.toNat + 3)).toInt = z21.toInt := by rw [hz21, show z20.toInt.toNat = 4 * v4.toInt.toNat + 3 by omega]
            exact pj_X_sub [(0, .ref 171), (1, .int hr), (2, .int w), (3, .int z30), (4, .int z31)] (show List.Nodup [0, 1, 2, 3, 4] by decide) ⟨rfl, rfl, rfl, rfl, rfl, trivial⟩ (ih z30 z31 ⟨by omega, by omega⟩ ⟨by omega, by omega⟩ (pj_oin_1 hz30 hz29 (by omega) (by omega) x0_ (by omega) v4.toInt.toNat (by omega) (by omega) (by omega)) (by omega) (by omega))
theorem ct_206x (G0 : pj_G) (hI : pj_Inv G0) (hr : Int32) (w : Int32) : pj_Y 1 206 [.ref 171, .int hr, .int w] G0 (fun v' G' => ∃ y : Int32, v' = some (.int y) ∧ G0 = G' ∧ ((0 : Int) ≤ y.toInt ∧ y.toInt ≤ 1023) ∧ (∀ H, G0 = H → (pj_oin H y (pj_fi H 171 5).toInt hr)) ∧ (y = F_207x G0 hr w)) := by
  have c0_ : (Int32.ofInt 0).toInt = 0 := by decide
  have c1_ : (Int32.ofInt 1).toInt = 1 := by decide
  have c2_ : (Int32.ofInt 3).toInt = 3 := by decide
  have c3_ : (Int32.ofInt 4).toInt = 4 := by decide
  refine pj_Y_X (M := pj_m206) rfl rfl (Nat.le_of_ble_eq_true rfl) ?_
  have hK : pj_kpt ([], [], []) G0 G0 := pj_kpt_r _ _
  show pj_X _ _ G0 0 [(0, .ref 171), (1, .int hr), (2, .int w)] [] _
  rw [F_207x_e]
  obtain ⟨y36, hy36⟩ : ∃ z : Int32, z = pj_fi G0 171 5 := ⟨_, rfl⟩
  have ey36 : (pj_fi G0 171 5).toInt = y36.toInt := by rw [hy36]
  have ry36 : (0 : Int) ≤ y36.toInt ∧ y36.toInt ≤ 6 := by rw [hy36]; exact hI.2.1 171 5 (0, 6) rfl
  refine pj_X_of (fun r h => pj_R_to (G0, 5, [(4, .int (Int32.ofInt 0)), (3, .int (Int32.ofInt 0)), (0, .ref 171), (1, .int hr), (2, .int w)], [], 0, 0) 5 5 (fun _ => rfl) h) ?_
  have q37 : (pj_fi G0 171 5).toInt = y36.toInt := by rw [show pj_fi G0 171 5 = y36 from hy36.symm]
  exact pj_X_sub [(0, .ref 171), (1, .int hr), (2, .int w), (3, .int (Int32.ofInt 0)), (4, .int (Int32.ofInt 0))] (show List.Nodup [0, 1, 2, 3, 4] by decide) ⟨rfl, rfl, rfl, rfl, rfl, trivial⟩ ((lp_ct_206x G0 hI hr w  7) (Int32.ofInt 0) (Int32.ofInt 0) ⟨by omega, by omega⟩ ⟨by omega, by omega⟩ pj_oin_z (by omega) (by omega))
theorem fr_207x (G0 : pj_G) (hI : pj_Inv G0) (hr : Int32) (w : Int32) : ((0 : Int) ≤ (F_207x G0 hr w).toInt ∧ (F_207x G0 hr w).toInt ≤ 1023) ∧ (pj_oin G0 (F_207x G0 hr w) (pj_fi G0 171 5).toInt hr) := by
  obtain ⟨v, G', -, y, -, rfl, r, x, e⟩ := ct_206x G0 hI hr w
  rw [← e]
  exact ⟨r, x _ rfl⟩
