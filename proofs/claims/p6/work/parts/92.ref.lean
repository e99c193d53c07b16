def pj_bit (s c : Int32) : Prop := (s >>> (c &&& 31)) &&& 1 = 1
theorem pj_bit0 {c : Int32} : ¬ pj_bit (Int32.ofInt 0) c := by
  intro h
  unfold pj_bit at h
  have h := congrArg Int32.toBitVec h
  rw [Int32.toBitVec_and, Int32.toBitVec_shiftRight] at h
  rw [show (Int32.ofInt 0).toBitVec = 0#32 by decide] at h
  simp at h
theorem pj_bv1 {x : BitVec 32} : x &&& 1#32 = 1#32 ↔ x.getLsbD 0 = true := by
  constructor
  · intro h
    have := congrArg (fun y => y.getLsbD 0) h
    simpa using this
  · intro h
    apply BitVec.eq_of_getLsbD_eq
    intro i hi
    rw [BitVec.getLsbD_and]
    by_cases e : i = 0
    · subst e
      simp [h]
    · have : (1#32).getLsbD i = false := by
        rw [BitVec.getLsbD_one]
        simp [e]
      simp [this]
theorem pj_bit_i {s c : Int32} (h2 : 0 ≤ c.toInt) (h3 : c.toInt ≤ 9) : pj_bit s c ↔ s.toBitVec.getLsbD c.toInt.toNat = true := by
  have e0 : pj_bit s c ↔ (s.toBitVec.sshiftRight' ((c &&& 31).toBitVec.smod 32)) &&& 1#32 = 1#32 := by
    unfold pj_bit
    constructor
    · intro h
      have h := congrArg Int32.toBitVec h
      rw [Int32.toBitVec_and, Int32.toBitVec_shiftRight] at h
      exact h
    · intro h
      apply Int32.toBitVec_inj.mp
      rw [Int32.toBitVec_and, Int32.toBitVec_shiftRight]
      exact h
  rw [e0, pj_bv1]
  have key : ∀ k : Nat, k < 10 → (Int32.ofInt k &&& 31).toBitVec.smod 32 = BitVec.ofNat 32 k := by decide
  have hc : c = Int32.ofInt (c.toInt.toNat : Nat) := by
    rw [Int.toNat_of_nonneg h2]
    exact (Int32.ofInt_toInt c).symm
  have e1 : (c &&& 31).toBitVec.smod 32 = BitVec.ofNat 32 c.toInt.toNat := by
    conv => lhs; rw [hc]
    exact key _ (by omega)
  rw [e1, BitVec.sshiftRight']
  rw [BitVec.getLsbD_sshiftRight]
  have e2 : (BitVec.ofNat 32 c.toInt.toNat).toNat = c.toInt.toNat := by
    rw [BitVec.toNat_ofNat]
    omega
  rw [e2]
  have : c.toInt.toNat < 32 := by omega
  have e3 : c.toNatClampNeg = c.toInt.toNat := rfl
  simp [this]
  intro q
  exfalso
  omega
theorem pj_bit_or {s a c : Int32} (h0 : 0 ≤ a.toInt) (h1 : a.toInt ≤ 9) (h2 : 0 ≤ c.toInt) (h3 : c.toInt ≤ 9) (h : pj_bit (s ||| (Int32.ofInt 1 <<< (a &&& 31))) c) : c.toInt = a.toInt ∨ pj_bit s c := by
  rw [pj_bit_i h2 h3] at h
  rw [Int32.toBitVec_or, BitVec.getLsbD_or] at h
  rw [Bool.or_eq_true] at h
  rcases h with h | h
  · exact Or.inr ((pj_bit_i h2 h3).mpr h)
  · refine Or.inl ?_
    have key : ∀ a : Nat, a < 10 → ∀ c : Nat, c < 10 → (Int32.ofInt 1 <<< (Int32.ofInt a &&& 31)).toBitVec.getLsbD c = true → c = a := by decide
    have ha : a = Int32.ofInt (a.toInt.toNat : Nat) := by
      rw [Int.toNat_of_nonneg h0]
      exact (Int32.ofInt_toInt a).symm
    rw [ha] at h
    have := key a.toInt.toNat (by omega) c.toInt.toNat (by omega) h
    omega
theorem pj_bit_of {s c y : Int32} (h : y = (s >>> (c &&& 31)) &&& Int32.ofInt 1) (e : y.toInt = 1) : pj_bit s c := by
  have e1 : y = 1 := Int32.toInt_inj.mp (by rw [e]; decide)
  unfold pj_bit
  rw [show (1 : Int32) = Int32.ofInt 1 by decide, ← h, e1]
  decide
/-- where a set of crossings has one, a bridge of the first n lies there, its hours yet no more than h -/
def pj_oin (G : pj_G) (s : Int32) (n : Int) (h : Int32) : Prop := ∀ c : Int32, 0 ≤ c.toInt → c.toInt ≤ 9 → pj_bit s c → ∃ b : Nat, (b : Int) < n ∧ (pj_ai G 179 (4 * b)).toInt = c.toInt ∧ (pj_ai G 179 (4 * b + 1)).toInt ≤ h.toInt
theorem pj_oin_z {G : pj_G} {n : Int} {h : Int32} : pj_oin G (Int32.ofInt 0) n h := fun c _ _ hb => absurd hb pj_bit0
theorem pj_oin_m {G : pj_G} {s h : Int32} {n n' : Int} (q : pj_oin G s n h) (hn : n ≤ n') : pj_oin G s n' h := fun c h0 h1 hb => by
  obtain ⟨b, h2, h3⟩ := q c h0 h1 hb
  exact ⟨b, by omega, h3⟩
theorem pj_oin_0 {G : pj_G} {s s' h : Int32} {n n' : Int} (e : s' = s ||| Int32.ofInt 0) (q : pj_oin G s n h) (hn : n ≤ n') : pj_oin G s' n' h := by
  have e2 : s' = s := by
    rw [e]
    apply Int32.toBitVec_inj.mp
    rw [Int32.toBitVec_or]
    show s.toBitVec ||| 0#32 = _
    simp
  rw [e2]
  exact pj_oin_m q hn
theorem pj_oin_1 {G : pj_G} {s s' x c h : Int32} {n n' : Int} (e : s' = s ||| x) (ex : x = Int32.ofInt 1 <<< (c &&& 31)) (hc0 : 0 ≤ c.toInt) (hc9 : c.toInt ≤ 9) (q : pj_oin G s n h) (hn : n' = n + 1) (b : Nat) (hb : (b : Int) = n) (ha : (pj_ai G 179 (4 * b)).toInt = c.toInt) (hy : (pj_ai G 179 (4 * b + 1)).toInt ≤ h.toInt) : pj_oin G s' n' h := by
  intro c' h0 h1 hbit
  rw [e, ex] at hbit
  rcases pj_bit_or hc0 hc9 h0 h1 hbit with e1 | e1
  · exact ⟨b, by omega, by rw [ha, e1], hy⟩
  · obtain ⟨b2, h2, h3⟩ := q c' h0 h1 e1
    exact ⟨b2, by omega, h3⟩
def pj_nb (G : pj_G) (c is : Int32) (n : Int) : Prop := ∀ b : Nat, (b : Int) < n → (pj_ai G 179 (4 * b)).toInt = c.toInt → 1 ≤ is.toInt → (pj_ai G 179 (4 * b + 1)).toInt ≠ 0
theorem pj_nb_s {G : pj_G} {c is : Int32} {n n' : Int} (q : pj_nb G c is n) (hn : n' = n + 1) (b : Nat) (hb : (b : Int) = n) (h : (pj_ai G 179 (4 * b)).toInt = c.toInt → 1 ≤ is.toInt → (pj_ai G 179 (4 * b + 1)).toInt ≠ 0) : pj_nb G c is n' := by
  intro b2 h2
  by_cases e : b2 = b
  · subst e
    exact h
  · exact q b2 (by omega)
theorem pj_ob {G : pj_G} {s c is y hr : Int32} {n : Int} (hI : pj_Inv G) (h1 : pj_oin G s n hr) (hn : n ≤ 6) (hh : hr.toInt = 0) (h2 : pj_bit s c) (c0 : 0 ≤ c.toInt) (c9 : c.toInt ≤ 9) (h3 : y.toInt < 0 → pj_nb G c is n) (his : 1 ≤ is.toInt) : 0 ≤ y.toInt := by
  apply Classical.byContradiction
  intro q
  obtain ⟨b, hb, e1, e2⟩ := h1 c c0 c9 h2
  have h4 := h3 (by omega) b hb e1 his
  have h5 := (hI.2.2.2 179 32 rfl (4 * b + 1) (by omega)).1 (by omega)
  have h6 := h5.2 (by omega)
  omega
theorem ct_171b (G0 : pj_G) (hI : pj_Inv G0) (s : Int32) (k : Int32) : pj_Y 1 171 [.int s, .int k] G0 (fun v G' => ∃ y : Int32, v = some (.int y) ∧ G0 = G' ∧ ((0 : Int) ≤ y.toInt ∧ y.toInt ≤ 1) ∧ (1 ≤ y.toInt → pj_bit s k)) := by
  have c0_ : (Int32.ofInt 0).toInt = 0 := by decide
  have c1_ : (Int32.ofInt 1).toInt = 1 := by decide
  refine pj_Y_X (M := pj_m171) rfl rfl (Nat.le_of_ble_eq_true rfl) ?_
  have hK : pj_kpt ([], [], []) G0 G0 := pj_kpt_r _ _
  show pj_X _ _ G0 0 [(0, .int s), (1, .int k)] [] _
  refine pj_X_of (fun r h => pj_R_to (G0, 3, [(0, .int s), (1, .int k)], [.int (s >>> (k &&& 31))], 0, 0) 3 4 (fun _ => rfl) h) ?_
  obtain ⟨z1, hz1⟩ : ∃ z : Int32, z = s >>> (k &&& 31) := ⟨_, rfl⟩
  refine pj_X_eqi hz1.symm ?_
  refine pj_X_of (fun r h => pj_R_to (G0, 5, [(0, .int s), (1, .int k)], [.int (z1 &&& (Int32.ofInt 1))], 0, 0) 5 3 (fun _ => rfl) h) ?_
  obtain ⟨z2, hz2⟩ : ∃ z : Int32, z = z1 &&& (Int32.ofInt 1) := ⟨_, rfl⟩
  refine pj_X_eqi hz2.symm ?_
  have fz2_0 : 0 ≤ z2.toInt ∧ z2.toInt ≤ (Int32.ofInt 1).toInt := by rw [hz2]; exact pj_andI (by omega)
  refine pj_X_of (fun r h => pj_R_to (G0, 6, [(0, .int s), (1, .int k)], [.int (Int32.ofInt 1), .int z2], 0, 0) 6 2 (fun _ => rfl) h) ?_
  cases b3 : pj_c1 .ne z2 (Int32.ofInt 1) with
  | true =>
    have ub3 := pj_u_neT b3
    refine pj_X_of (fun r h => pj_R_icT 13 rfl rfl b3 h) ?_
    refine pj_X_of (fun r h => pj_R_to (G0, 14, [(0, .int s), (1, .int k)], [.int (Int32.ofInt 0)], 0, 0) 14 2 (fun _ => rfl) h) ?_
    exact pj_X_rt rfl rfl ⟨_, rfl, rfl, ⟨by omega, by omega⟩, (fun e1 => pj_bit_of (y := z2) (by rw [hz2, hz1]) (by omega))⟩
  | false =>
    have ub3 := pj_u_neF b3
    refine pj_X_of (fun r h => pj_R_icF rfl b3 h) ?_
    refine pj_X_of (fun r h => pj_R_to (G0, 14, [(0, .int s), (1, .int k)], [.int (Int32.ofInt 1)], 0, 0) 14 3 (fun _ => rfl) h) ?_
    exact pj_X_rt rfl rfl ⟨_, rfl, rfl, ⟨by omega, by omega⟩, (fun e1 => pj_bit_of (y := z2) (by rw [hz2, hz1]) (by omega))⟩
theorem lp_ct_205 (G0 : pj_G) (hI : pj_Inv G0) (c : Int32) (is : Int32) (ris : (0 : Int) ≤ is.toInt ∧ is.toInt ≤ 1) : ∀ mn : Nat, (∀ (v3 : Int32), ((0 : Int) ≤ v3.toInt ∧ v3.toInt ≤ 6) → (pj_nb G0 c is v3.toInt) → (v3.toInt ≤ (pj_fi G0 171 5).toInt) → 6 - v3.toInt < (mn : Int) → pj_X 0 pj_m205 G0 2 [(0, .ref 171), (1, .int c), (2, .int is), (3, .int v3)] [] (fun v G' => ∃ y : Int32, v = some (.int y) ∧ G0 = G' ∧ ((-1 : Int) ≤ y.toInt ∧ y.toInt ≤ 5) ∧ ((y.toInt < 0 → pj_nb G0 c is (pj_fi G0 171 5).toInt)))) := by
  have c0_ : (Int32.ofInt (-1)).toInt = -1 := by decide
  have c1_ : (Int32.ofInt 0).toInt = 0 := by decide
  have c2_ : (Int32.ofInt 1).toInt = 1 := by decide
  have c3_ : (Int32.ofInt 4).toInt = 4 := by decide
  have hK : pj_kpt ([], [], []) G0 G0 := pj_kpt_r _ _
  intro mn
  induction mn with
  | zero =>
    intro v3 rv3 x0_ x1_ hm
    exfalso
    omega
  | succ mn ih =>
    intro v3 rv3 x0_ x1_ hm
    obtain ⟨y1, hy1⟩ : ∃ z : Int32, z = pj_fi G0 171 5 := ⟨_, rfl⟩
    have ey1 : (pj_fi G0 171 5).toInt = y1.toInt := by rw [hy1]
    have ry1 : (0 : Int) ≤ y1.toInt ∧ y1.toInt ≤ 6 := by rw [hy1]; exact hI.2.1 171 5 (0, 6) rfl
    refine pj_X_of (fun r h => pj_R_to (G0, 4, [(0, .ref 171), (1, .int c), (2, .int is), (3, .int v3)], [.ref 171, .int v3], 0, 0) 4 3 (fun _ => rfl) h) ?_
    refine pj_X_of (fun r h => pj_T_gi hI rfl rfl h) ?_
    show pj_X _ _ G0 7 [(0, .ref 171), (1, .int c), (2, .int is), (3, .int v3)] [.int (pj_fi G0 171 5), .int v3] _
    refine pj_X_eqi (show pj_fi G0 171 5 = y1 from hy1.symm) ?_
    cases b2 : pj_c1 .ge v3 y1 with
    | true =>
      have ub2 := pj_u_geT b2
      refine pj_X_of (fun r h => pj_R_icT 54 rfl rfl b2 h) ?_
      refine pj_X_of (fun r h => pj_R_to (G0, 55, [(0, .ref 171), (1, .int c), (2, .int is), (3, .int v3)], [.int (Int32.ofInt (-1))], 0, 0) 55 2 (fun _ => rfl) h) ?_
      have q3 : (pj_fi G0 171 5).toInt = y1.toInt := by rw [show pj_fi G0 171 5 = y1 from hy1.symm]
      exact pj_X_rt rfl rfl ⟨_, rfl, rfl, ⟨by omega, by omega⟩, (fun q => (by rw [show (pj_fi G0 171 5).toInt = v3.toInt by omega]; exact x0_))⟩
    | false =>
      have ub2 := pj_u_geF b2
      refine pj_X_of (fun r h => pj_R_icF rfl b2 h) ?_
      refine pj_X_of (fun r h => pj_R_to (G0, 11, [(0, .ref 171), (1, .int c), (2, .int is), (3, .int v3)], [.ref 171], 0, 0) 11 2 (fun _ => rfl) h) ?_
      refine pj_X_of (fun r h => pj_T_gr hI rfl rfl rfl h) ?_
      refine pj_X_of (fun r h => pj_R_to (G0, 17, [(0, .ref 171), (1, .int c), (2, .int is), (3, .int v3)], [.int ((Int32.ofInt 4) * v3), .ref 179], 0, 0) 17 4 (fun _ => rfl) h) ?_
      obtain ⟨z4, hz4⟩ : ∃ z : Int32, z = (Int32.ofInt 4) * v3 := ⟨_, rfl⟩
      refine pj_X_eqi hz4.symm ?_
      have fz4_0 : z4.toInt = 4 * v3.toInt := by rw [hz4]; exact pj_mulL (by decide) (by omega) (by omega)
      refine pj_X_of (fun r h => pj_R_to (G0, 19, [(0, .ref 171), (1, .int c), (2, .int is), (3, .int v3)], [.int (z4 + (Int32.ofInt 0)), .ref 179], 0, 0) 19 3 (fun _ => rfl) h) ?_
      obtain ⟨z5, hz5⟩ : ∃ z : Int32, z = z4 + (Int32.ofInt 0) := ⟨_, rfl⟩
      refine pj_X_eqi hz5.symm ?_
      have fz5_0 : z5.toInt = z4.toInt + (Int32.ofInt 0).toInt := by rw [hz5]; exact pj_addI (by have := pj_i32 z4; have := pj_i32 (Int32.ofInt 0); omega) (by have := pj_i32 z4; have := pj_i32 (Int32.ofInt 0); omega)
      refine pj_X_of (fun r h => pj_T_il hI rfl rfl (by omega) (by omega) h) ?_
      show pj_X _ _ G0 20 [(0, .ref 171), (1, .int c), (2, .int is), (3, .int v3)] [.int (pj_ai G0 179 z5.toInt.toNat)] _
      obtain ⟨z6, hz6⟩ : ∃ z : Int32, z = pj_ai G0 179 z5.toInt.toNat := ⟨_, rfl⟩
      refine pj_X_eqi hz6.symm ?_
      have ez6 : (pj_ai G0 179 z5.toInt.toNat).toInt = z6.toInt := by rw [hz6]
      have fz6_0 : -1 ≤ z6.toInt ∧ z6.toInt ≤ 9 := by rw [hz6]; exact ((hI.2.2.2 179 32 rfl _ (by show _ < 32; omega)).1 (by omega)).1 (by omega)
      refine pj_X_of (fun r h => pj_R_to (G0, 21, [(0, .ref 171), (1, .int c), (2, .int is), (3, .int v3)], [.int c, .int z6], 0, 0) 21 2 (fun _ => rfl) h) ?_
      cases b7 : pj_c1 .ne z6 c with
      | true =>
        have ub7 := pj_u_neT b7
        refine pj_X_of (fun r h => pj_R_icT 48 rfl rfl b7 h) ?_
        refine pj_X_of (fun r h => pj_R_to (G0, 51, [(3, .int (v3 + Int32.ofInt 1)), (0, .ref 171), (1, .int c), (2, .int is)], [], 0, 0) 51 2 (fun _ => rfl) h) ?_
        obtain ⟨z8, hz8⟩ : ∃ z : Int32, z = v3 + Int32.ofInt 1 := ⟨_, rfl⟩
        rw [← hz8]
        have fz8_0 : z8.toInt = v3.toInt + (Int32.ofInt 1).toInt := by rw [hz8]; exact pj_addI (by have := pj_i32 v3; have := pj_i32 (Int32.ofInt 1); omega) (by have := pj_i32 v3; have := pj_i32 (Int32.ofInt 1); omega)
        refine pj_X_of (fun r h => pj_R_to (G0, 2, [(3, .int z8), (0, .ref 171), (1, .int c), (2, .int is)], [], 0, 0) 2 2 (fun _ => rfl) h) ?_
        have q9 : (pj_fi G0 171 5).toInt = y1.toInt := by rw [show pj_fi G0 171 5 = y1 from hy1.symm]
        have k10 : (pj_ai G0 179 (4 * v3.toInt.toNat)).toInt = z6.toInt := by rw [hz6, show z5.toInt.toNat = 4 * v3.toInt.toNat by omega]
        exact pj_X_sub [(0, .ref 171), (1, .int c), (2, .int is), (3, .int z8)] (show List.Nodup [0, 1, 2, 3] by decide) ⟨rfl, rfl, rfl, rfl, trivial⟩ (ih z8 ⟨by omega, by omega⟩ (pj_nb_s x0_ (by omega) v3.toInt.toNat (by omega) (by omega)) (by omega) (by omega))
      | false =>
        have ub7 := pj_u_neF b7
        refine pj_X_of (fun r h => pj_R_icF rfl b7 h) ?_
        refine pj_X_of (fun r h => pj_R_to (G0, 25, [(0, .ref 171), (1, .int c), (2, .int is), (3, .int v3)], [.ref 171], 0, 0) 25 2 (fun _ => rfl) h) ?_
        refine pj_X_of (fun r h => pj_T_gr hI rfl rfl rfl h) ?_
        refine pj_X_of (fun r h => pj_R_to (G0, 31, [(0, .ref 171), (1, .int c), (2, .int is), (3, .int v3)], [.int ((Int32.ofInt 4) * v3), .ref 179], 0, 0) 31 4 (fun _ => rfl) h) ?_
        obtain ⟨z11, hz11⟩ : ∃ z : Int32, z = (Int32.ofInt 4) * v3 := ⟨_, rfl⟩
        refine pj_X_eqi hz11.symm ?_
        have fz11_0 : z11.toInt = 4 * v3.toInt := by rw [hz11]; exact pj_mulL (by decide) (by omega) (by omega)
        refine pj_X_of (fun r h => pj_R_to (G0, 33, [(0, .ref 171), (1, .int c), (2, .int is), (3, .int v3)], [.int (z11 + (Int32.ofInt 1)), .ref 179], 0, 0) 33 3 (fun _ => rfl) h) ?_
        obtain ⟨z12, hz12⟩ : ∃ z : Int32, z = z11 + (Int32.ofInt 1) := ⟨_, rfl⟩
        refine pj_X_eqi hz12.symm ?_
        have fz12_0 : z12.toInt = z11.toInt + (Int32.ofInt 1).toInt := by rw [hz12]; exact pj_addI (by have := pj_i32 z11; have := pj_i32 (Int32.ofInt 1); omega) (by have := pj_i32 z11; have := pj_i32 (Int32.ofInt 1); omega)
        refine pj_X_of (fun r h => pj_T_il hI rfl rfl (by omega) (by omega) h) ?_
        show pj_X _ _ G0 34 [(0, .ref 171), (1, .int c), (2, .int is), (3, .int v3)] [.int (pj_ai G0 179 z12.toInt.toNat)] _
        obtain ⟨z13, hz13⟩ : ∃ z : Int32, z = pj_ai G0 179 z12.toInt.toNat := ⟨_, rfl⟩
        refine pj_X_eqi hz13.symm ?_
        have ez13 : (pj_ai G0 179 z12.toInt.toNat).toInt = z13.toInt := by rw [hz13]
        have fz13_0 : 0 ≤ z13.toInt := by rw [hz13]; exact ((hI.2.2.2 179 32 rfl _ (by show _ < 32; omega)).1 (by omega)).2 (by omega)
        cases b14 : pj_c1 .ne z13 0 with
        | true =>
          have ub14 := pj_u0_neT b14
          refine pj_X_of (fun r h => pj_R_ifT 41 rfl rfl b14 h) ?_
          refine pj_X_of (fun r h => pj_R_to (G0, 43, [(0, .ref 171), (1, .int c), (2, .int is), (3, .int v3)], [.int is, .int (Int32.ofInt 0)], 0, 0) 43 3 (fun _ => rfl) h) ?_
          cases b15 : pj_c1 .ne (Int32.ofInt 0) is with
          | true =>
            have ub15 := pj_u_neT b15
            refine pj_X_of (fun r h => pj_R_icT 48 rfl rfl b15 h) ?_
            refine pj_X_of (fun r h => pj_R_to (G0, 51, [(3, .int (v3 + Int32.ofInt 1)), (0, .ref 171), (1, .int c), (2, .int is)], [], 0, 0) 51 2 (fun _ => rfl) h) ?_
            obtain ⟨z16, hz16⟩ : ∃ z : Int32, z = v3 + Int32.ofInt 1 := ⟨_, rfl⟩
            rw [← hz16]
            have fz16_0 : z16.toInt = v3.toInt + (Int32.ofInt 1).toInt := by rw [hz16]; exact pj_addI (by have := pj_i32 v3; have := pj_i32 (Int32.ofInt 1); omega) (by have := pj_i32 v3; have := pj_i32 (Int32.ofInt 1); omega)
            refine pj_X_of (fun r h => pj_R_to (G0, 2, [(3, .int z16), (0, .ref 171), (1, .int c), (2, .int is)], [], 0, 0) 2 2 (fun _ => rfl) h) ?_
            have q17 : (pj_fi G0 171 5).toInt = y1.toInt := by rw [show pj_fi G0 171 5 = y1 from hy1.symm]
            have k18 : (pj_ai G0 179 (4 * v3.toInt.toNat)).toInt = z6.toInt := by rw [hz6, show z5.toInt.toNat = 4 * v3.toInt.toNat by omega]
            have k19 : (pj_ai G0 179 (4 * v3.toInt.toNat + 1)).toInt = z13.toInt := by rw [hz13, show z12.toInt.toNat = 4 * v3.toInt.toNat + 1 by omega]
            exact pj_X_sub [(0, .ref 171), (1, .int c), (2, .int is), (3, .int z16)] (show List.Nodup [0, 1, 2, 3] by decide) ⟨rfl, rfl, rfl, rfl, trivial⟩ (ih z16 ⟨by omega, by omega⟩ (pj_nb_s x0_ (by omega) v3.toInt.toNat (by omega) (by omega)) (by omega) (by omega))
          | false =>
            have ub15 := pj_u_neF b15
            refine pj_X_of (fun r h => pj_R_icF rfl b15 h) ?_
            refine pj_X_of (fun r h => pj_R_to (G0, 47, [(0, .ref 171), (1, .int c), (2, .int is), (3, .int v3)], [.int v3], 0, 0) 47 2 (fun _ => rfl) h) ?_
            have q20 : (pj_fi G0 171 5).toInt = y1.toInt := by rw [show pj_fi G0 171 5 = y1 from hy1.symm]
            exact pj_X_rt rfl rfl ⟨_, rfl, rfl, ⟨by omega, by omega⟩, (fun q => absurd q (by omega))⟩
        | false =>
          have ub14 := pj_u0_neF b14
          refine pj_X_of (fun r h => pj_R_ifF rfl b14 h) ?_
          refine pj_X_of (fun r h => pj_R_to (G0, 43, [(0, .ref 171), (1, .int c), (2, .int is), (3, .int v3)], [.int is, .int (Int32.ofInt 1)], 0, 0) 43 4 (fun _ => rfl) h) ?_
          cases b21 : pj_c1 .ne (Int32.ofInt 1) is with
          | true =>
            have ub21 := pj_u_neT b21
            refine pj_X_of (fun r h => pj_R_icT 48 rfl rfl b21 h) ?_
            refine pj_X_of (fun r h => pj_R_to (G0, 51, [(3, .int (v3 + Int32.ofInt 1)), (0, .ref 171), (1, .int c), (2, .int is)], [], 0, 0) 51 2 (fun _ => rfl) h) ?_
            obtain ⟨z22, hz22⟩ : ∃ z : Int32, z = v3 + Int32.ofInt 1 := ⟨_, rfl⟩
            rw [← hz22]
            have fz22_0 : z22.toInt = v3.toInt + (Int32.ofInt 1).toInt := by rw [hz22]; exact pj_addI (by have := pj_i32 v3; have := pj_i32 (Int32.ofInt 1); omega) (by have := pj_i32 v3; have := pj_i32 (Int32.ofInt 1); omega)
            refine pj_X_of (fun r h => pj_R_to (G0, 2, [(3, .int z22), (0, .ref 171), (1, .int c), (2, .int is)], [], 0, 0) 2 2 (fun _ => rfl) h) ?_
            have q23 : (pj_fi G0 171 5).toInt = y1.toInt := by rw [show pj_fi G0 171 5 = y1 from hy1.symm]
            have k24 : (pj_ai G0 179 (4 * v3.toInt.toNat)).toInt = z6.toInt := by rw [hz6, show z5.toInt.toNat = 4 * v3.toInt.toNat by omega]
            have k25 : (pj_ai G0 179 (4 * v3.toInt.toNat + 1)).toInt = z13.toInt := by rw [hz13, show z12.toInt.toNat = 4 * v3.toInt.toNat + 1 by omega]
            exact pj_X_sub [(0, .ref 171), (1, .int c), (2, .int is), (3, .int z22)] (show List.Nodup [0, 1, 2, 3] by decide) ⟨rfl, rfl, rfl, rfl, trivial⟩ (ih z22 ⟨by omega, by omega⟩ (pj_nb_s x0_ (by omega) v3.toInt.toNat (by omega) (by omega)) (by omega) (by omega))
          | false =>
            have ub21 := pj_u_neF b21
            refine pj_X_of (fun r h => pj_R_icF rfl b21 h) ?_
            refine pj_X_of (fun r h => pj_R_to (G0, 47, [(0, .ref 171), (1, .int c), (2, .int is), (3, .int v3)], [.int v3], 0, 0) 47 2 (fun _ => rfl) h) ?_
            have q26 : (pj_fi G0 171 5).toInt = y1.toInt := by rw [show pj_fi G0 171 5 = y1 from hy1.symm]
            exact pj_X_rt rfl rfl ⟨_, rfl, rfl, ⟨by omega, by omega⟩, (fun q => absurd q (by omega))⟩
theorem ct_205 (G0 : pj_G) (hI : pj_Inv G0) (c : Int32) (is : Int32) (ris : (0 : Int) ≤ is.toInt ∧ is.toInt ≤ 1) : pj_Y 1 205 [.ref 171, .int c, .int is] G0 (fun v G' => ∃ y : Int32, v = some (.int y) ∧ G0 = G' ∧ ((-1 : Int) ≤ y.toInt ∧ y.toInt ≤ 5) ∧ ((y.toInt < 0 → pj_nb G0 c is (pj_fi G0 171 5).toInt))) := by
  have c0_ : (Int32.ofInt (-1)).toInt = -1 := by decide
  have c1_ : (Int32.ofInt 0).toInt = 0 := by decide
  have c2_ : (Int32.ofInt 1).toInt = 1 := by decide
  have c3_ : (Int32.ofInt 4).toInt = 4 := by decide
  refine pj_Y_X (M := pj_m205) rfl rfl (Nat.le_of_ble_eq_true rfl) ?_
  have hK : pj_kpt ([], [], []) G0 G0 := pj_kpt_r _ _
  show pj_X _ _ G0 0 [(0, .ref 171), (1, .int c), (2, .int is)] [] _
  obtain ⟨y27, hy27⟩ : ∃ z : Int32, z = pj_fi G0 171 5 := ⟨_, rfl⟩
  have ey27 : (pj_fi G0 171 5).toInt = y27.toInt := by rw [hy27]
  have ry27 : (0 : Int) ≤ y27.toInt ∧ y27.toInt ≤ 6 := by rw [hy27]; exact hI.2.1 171 5 (0, 6) rfl
  refine pj_X_of (fun r h => pj_R_to (G0, 2, [(3, .int (Int32.ofInt 0)), (0, .ref 171), (1, .int c), (2, .int is)], [], 0, 0) 2 3 (fun _ => rfl) h) ?_
  have q28 : (pj_fi G0 171 5).toInt = y27.toInt := by rw [show pj_fi G0 171 5 = y27 from hy27.symm]
  exact pj_X_sub [(0, .ref 171), (1, .int c), (2, .int is), (3, .int (Int32.ofInt 0))] (show List.Nodup [0, 1, 2, 3] by decide) ⟨rfl, rfl, rfl, rfl, trivial⟩ ((lp_ct_205 G0 hI c is ris 7) (Int32.ofInt 0) ⟨by omega, by omega⟩ (fun b hb => absurd hb (by omega)) (by omega) (by omega))
theorem lp_ct_206 (G0 : pj_G) (hI : pj_Inv G0) (hr : Int32) (w : Int32) : ∀ mn : Nat, (∀ (v3 : Int32) (v4 : Int32), ((0 : Int) ≤ v3.toInt ∧ v3.toInt ≤ 1023) → ((0 : Int) ≤ v4.toInt ∧ v4.toInt ≤ 6) → (pj_oin G0 v3 v4.toInt hr) → (v4.toInt ≤ (pj_fi G0 171 5).toInt) → 6 - v4.toInt < (mn : Int) → pj_X 0 pj_m206 G0 5 [(0, .ref 171), (1, .int hr), (2, .int w), (3, .int v3), (4, .int v4)] [] (fun v G' => ∃ y : Int32, v = some (.int y) ∧ G0 = G' ∧ ((0 : Int) ≤ y.toInt ∧ y.toInt ≤ 1023) ∧ (pj_oin G0 y (pj_fi G0 171 5).toInt hr))) := by
  have c0_ : (Int32.ofInt 0).toInt = 0 := by decide
  have c1_ : (Int32.ofInt 1).toInt = 1 := by decide
  have c2_ : (Int32.ofInt 3).toInt = 3 := by decide
  have c3_ : (Int32.ofInt 4).toInt = 4 := by decide
  have hK : pj_kpt ([], [], []) G0 G0 := pj_kpt_r _ _
  intro mn
  induction mn with
  | zero =>
    intro v3 v4 rv3 rv4 x0_ x1_ hm
    exfalso
    omega
  | succ mn ih =>
    intro v3 v4 rv3 rv4 x0_ x1_ hm
    obtain ⟨y1, hy1⟩ : ∃ z : Int32, z = pj_fi G0 171 5 := ⟨_, rfl⟩
    have ey1 : (pj_fi G0 171 5).toInt = y1.toInt := by rw [hy1]
    have ry1 : (0 : Int) ≤ y1.toInt ∧ y1.toInt ≤ 6 := by rw [hy1]; exact hI.2.1 171 5 (0, 6) rfl
    refine pj_X_of (fun r h => pj_R_to (G0, 8, [(0, .ref 171), (1, .int hr), (2, .int w), (3, .int v3), (4, .int v4)], [.ref 171, .int v4], 0, 0) 8 3 (fun _ => rfl) h) ?_
    refine pj_X_of (fun r h => pj_T_gi hI rfl rfl h) ?_
    show pj_X _ _ G0 11 [(0, .ref 171), (1, .int hr), (2, .int w), (3, .int v3), (4, .int v4)] [.int (pj_fi G0 171 5), .int v4] _
    refine pj_X_eqi (show pj_fi G0 171 5 = y1 from hy1.symm) ?_
    cases b2 : pj_c1 .ge v4 y1 with
    | true =>
      have ub2 := pj_u_geT b2
      refine pj_X_of (fun r h => pj_R_icT 79 rfl rfl b2 h) ?_
      refine pj_X_of (fun r h => pj_R_to (G0, 80, [(0, .ref 171), (1, .int hr), (2, .int w), (3, .int v3), (4, .int v4)], [.int v3], 0, 0) 80 2 (fun _ => rfl) h) ?_
      have q3 : (pj_fi G0 171 5).toInt = y1.toInt := by rw [show pj_fi G0 171 5 = y1 from hy1.symm]
      exact pj_X_rt rfl rfl ⟨_, rfl, rfl, ⟨by omega, by omega⟩, pj_oin_m x0_ (by omega)⟩
    | false =>
      have ub2 := pj_u_geF b2
      refine pj_X_of (fun r h => pj_R_icF rfl b2 h) ?_
      refine pj_X_of (fun r h => pj_R_to (G0, 15, [(0, .ref 171), (1, .int hr), (2, .int w), (3, .int v3), (4, .int v4)], [.ref 171], 0, 0) 15 2 (fun _ => rfl) h) ?_
      refine pj_X_of (fun r h => pj_T_gr hI rfl rfl rfl h) ?_
      refine pj_X_of (fun r h => pj_R_to (G0, 22, [(0, .ref 171), (1, .int hr), (2, .int w), (3, .int v3), (4, .int v4)], [.int ((Int32.ofInt 4) * v4), .ref 179], 0, 0) 22 4 (fun _ => rfl) h) ?_
      obtain ⟨z4, hz4⟩ : ∃ z : Int32, z = (Int32.ofInt 4) * v4 := ⟨_, rfl⟩
      refine pj_X_eqi hz4.symm ?_
      have fz4_0 : z4.toInt = 4 * v4.toInt := by rw [hz4]; exact pj_mulL (by decide) (by omega) (by omega)
      refine pj_X_of (fun r h => pj_R_to (G0, 24, [(0, .ref 171), (1, .int hr), (2, .int w), (3, .int v3), (4, .int v4)], [.int (z4 + (Int32.ofInt 0)), .ref 179], 0, 0) 24 3 (fun _ => rfl) h) ?_
      obtain ⟨z5, hz5⟩ : ∃ z : Int32, z = z4 + (Int32.ofInt 0) := ⟨_, rfl⟩
      refine pj_X_eqi hz5.symm ?_
      have fz5_0 : z5.toInt = z4.toInt + (Int32.ofInt 0).toInt := by rw [hz5]; exact pj_addI (by have := pj_i32 z4; have := pj_i32 (Int32.ofInt 0); omega) (by have := pj_i32 z4; have := pj_i32 (Int32.ofInt 0); omega)
      refine pj_X_of (fun r h => pj_T_il hI rfl rfl (by omega) (by omega) h) ?_
      show pj_X _ _ G0 25 [(0, .ref 171), (1, .int hr), (2, .int w), (3, .int v3), (4, .int v4)] [.int (pj_ai G0 179 z5.toInt.toNat)] _
      obtain ⟨z6, hz6⟩ : ∃ z : Int32, z = pj_ai G0 179 z5.toInt.toNat := ⟨_, rfl⟩
      refine pj_X_eqi hz6.symm ?_
      have ez6 : (pj_ai G0 179 z5.toInt.toNat).toInt = z6.toInt := by rw [hz6]
      have fz6_0 : -1 ≤ z6.toInt ∧ z6.toInt ≤ 9 := by rw [hz6]; exact ((hI.2.2.2 179 32 rfl _ (by show _ < 32; omega)).1 (by omega)).1 (by omega)
      refine pj_X_of (fun r h => pj_R_to (G0, 30, [(5, .int z6), (0, .ref 171), (1, .int hr), (2, .int w), (3, .int v3), (4, .int v4)], [.int z6, .int v3], 0, 0) 30 4 (fun _ => rfl) h) ?_
      cases b7 : pj_c1 .lt z6 0 with
      | true =>
        have ub7 := pj_u0_ltT b7
        refine pj_X_of (fun r h => pj_R_ifT 70 rfl rfl b7 h) ?_
        refine pj_X_of (fun r h => pj_R_to (G0, 72, [(5, .int z6), (0, .ref 171), (1, .int hr), (2, .int w), (3, .int v3), (4, .int v4)], [.int (v3 ||| (Int32.ofInt 0))], 0, 0) 72 3 (fun _ => rfl) h) ?_
        obtain ⟨z8, hz8⟩ : ∃ z : Int32, z = v3 ||| (Int32.ofInt 0) := ⟨_, rfl⟩
        refine pj_X_eqi hz8.symm ?_
        have fz8_0 : 0 ≤ z8.toInt ∧ z8.toInt ≤ 1023 := by rw [hz8]; exact pj_orI1024 (by omega) (by omega) (by omega) (by omega)
        refine pj_X_of (fun r h => pj_R_to (G0, 76, [(4, .int (v4 + Int32.ofInt 1)), (3, .int z8), (5, .int z6), (0, .ref 171), (1, .int hr), (2, .int w)], [], 0, 0) 76 3 (fun _ => rfl) h) ?_
        obtain ⟨z9, hz9⟩ : ∃ z : Int32, z = v4 + Int32.ofInt 1 := ⟨_, rfl⟩
        rw [← hz9]
        have fz9_0 : z9.toInt = v4.toInt + (Int32.ofInt 1).toInt := by rw [hz9]; exact pj_addI (by have := pj_i32 v4; have := pj_i32 (Int32.ofInt 1); omega) (by have := pj_i32 v4; have := pj_i32 (Int32.ofInt 1); omega)
        refine pj_X_of (fun r h => pj_R_to (G0, 5, [(4, .int z9), (3, .int z8), (5, .int z6), (0, .ref 171), (1, .int hr), (2, .int w)], [], 0, 0) 5 2 (fun _ => rfl) h) ?_
        have q10 : (pj_fi G0 171 5).toInt = y1.toInt := by rw [show pj_fi G0 171 5 = y1 from hy1.symm]
        have k11 : (pj_ai G0 179 (4 * v4.toInt.toNat)).toInt = z6.toInt := by rw [hz6, show z5.toInt.toNat = 4 * v4.toInt.toNat by omega]
        exact pj_X_sub [(0, .ref 171), (1, .int hr), (2, .int w), (3, .int z8), (4, .int z9)] (show List.Nodup [0, 1, 2, 3, 4] by decide) ⟨rfl, rfl, rfl, rfl, rfl, trivial⟩ (ih z8 z9 ⟨by omega, by omega⟩ ⟨by omega, by omega⟩ (pj_oin_0 hz8 x0_ (by omega)) (by omega) (by omega))
      | false =>
        have ub7 := pj_u0_ltF b7
        refine pj_X_of (fun r h => pj_R_ifF rfl b7 h) ?_
        refine pj_X_of (fun r h => pj_R_to (G0, 34, [(5, .int z6), (0, .ref 171), (1, .int hr), (2, .int w), (3, .int v3), (4, .int v4)], [.ref 171, .int v3], 0, 0) 34 2 (fun _ => rfl) h) ?_
        refine pj_X_of (fun r h => pj_T_gr hI rfl rfl rfl h) ?_
        refine pj_X_of (fun r h => pj_R_to (G0, 41, [(5, .int z6), (0, .ref 171), (1, .int hr), (2, .int w), (3, .int v3), (4, .int v4)], [.int ((Int32.ofInt 4) * v4), .ref 179, .int v3], 0, 0) 41 4 (fun _ => rfl) h) ?_
        obtain ⟨z12, hz12⟩ : ∃ z : Int32, z = (Int32.ofInt 4) * v4 := ⟨_, rfl⟩
        refine pj_X_eqi hz12.symm ?_
        have fz12_0 : z12.toInt = 4 * v4.toInt := by rw [hz12]; exact pj_mulL (by decide) (by omega) (by omega)
        refine pj_X_of (fun r h => pj_R_to (G0, 43, [(5, .int z6), (0, .ref 171), (1, .int hr), (2, .int w), (3, .int v3), (4, .int v4)], [.int (z12 + (Int32.ofInt 1)), .ref 179, .int v3], 0, 0) 43 3 (fun _ => rfl) h) ?_
        obtain ⟨z13, hz13⟩ : ∃ z : Int32, z = z12 + (Int32.ofInt 1) := ⟨_, rfl⟩
        refine pj_X_eqi hz13.symm ?_
        have fz13_0 : z13.toInt = z12.toInt + (Int32.ofInt 1).toInt := by rw [hz13]; exact pj_addI (by have := pj_i32 z12; have := pj_i32 (Int32.ofInt 1); omega) (by have := pj_i32 z12; have := pj_i32 (Int32.ofInt 1); omega)
        refine pj_X_of (fun r h => pj_T_il hI rfl rfl (by omega) (by omega) h) ?_
        show pj_X _ _ G0 44 [(5, .int z6), (0, .ref 171), (1, .int hr), (2, .int w), (3, .int v3), (4, .int v4)] [.int (pj_ai G0 179 z13.toInt.toNat), .int v3] _
        obtain ⟨z14, hz14⟩ : ∃ z : Int32, z = pj_ai G0 179 z13.toInt.toNat := ⟨_, rfl⟩
        refine pj_X_eqi hz14.symm ?_
        have ez14 : (pj_ai G0 179 z13.toInt.toNat).toInt = z14.toInt := by rw [hz14]
        have fz14_0 : 0 ≤ z14.toInt := by rw [hz14]; exact ((hI.2.2.2 179 32 rfl _ (by show _ < 32; omega)).1 (by omega)).2 (by omega)
        refine pj_X_of (fun r h => pj_R_to (G0, 45, [(5, .int z6), (0, .ref 171), (1, .int hr), (2, .int w), (3, .int v3), (4, .int v4)], [.int hr, .int z14, .int v3], 0, 0) 45 2 (fun _ => rfl) h) ?_
        cases b15 : pj_c1 .gt z14 hr with
        | true =>
          have ub15 := pj_u_gtT b15
          refine pj_X_of (fun r h => pj_R_icT 70 rfl rfl b15 h) ?_
          refine pj_X_of (fun r h => pj_R_to (G0, 72, [(5, .int z6), (0, .ref 171), (1, .int hr), (2, .int w), (3, .int v3), (4, .int v4)], [.int (v3 ||| (Int32.ofInt 0))], 0, 0) 72 3 (fun _ => rfl) h) ?_
          obtain ⟨z16, hz16⟩ : ∃ z : Int32, z = v3 ||| (Int32.ofInt 0) := ⟨_, rfl⟩
          refine pj_X_eqi hz16.symm ?_
          have fz16_0 : 0 ≤ z16.toInt ∧ z16.toInt ≤ 1023 := by rw [hz16]; exact pj_orI1024 (by omega) (by omega) (by omega) (by omega)
          refine pj_X_of (fun r h => pj_R_to (G0, 76, [(4, .int (v4 + Int32.ofInt 1)), (3, .int z16), (5, .int z6), (0, .ref 171), (1, .int hr), (2, .int w)], [], 0, 0) 76 3 (fun _ => rfl) h) ?_
          obtain ⟨z17, hz17⟩ : ∃ z : Int32, z = v4 + Int32.ofInt 1 := ⟨_, rfl⟩
          rw [← hz17]
          have fz17_0 : z17.toInt = v4.toInt + (Int32.ofInt 1).toInt := by rw [hz17]; exact pj_addI (by have := pj_i32 v4; have := pj_i32 (Int32.ofInt 1); omega) (by have := pj_i32 v4; have := pj_i32 (Int32.ofInt 1); omega)
          refine pj_X_of (fun r h => pj_R_to (G0, 5, [(4, .int z17), (3, .int z16), (5, .int z6), (0, .ref 171), (1, .int hr), (2, .int w)], [], 0, 0) 5 2 (fun _ => rfl) h) ?_
          have q18 : (pj_fi G0 171 5).toInt = y1.toInt := by rw [show pj_fi G0 171 5 = y1 from hy1.symm]
          have k19 : (pj_ai G0 179 (4 * v4.toInt.toNat)).toInt = z6.toInt := by rw [hz6, show z5.toInt.toNat = 4 * v4.toInt.toNat by omega]
          have k20 : (pj_ai G0 179 (4 * v4.toInt.toNat + 1)).toInt = z14.toInt := by rw [hz14, show z13.toInt.toNat = 4 * v4.toInt.toNat + 1 by omega]
          exact pj_X_sub [(0, .ref 171), (1, .int hr), (2, .int w), (3, .int z16), (4, .int z17)] (show List.Nodup [0, 1, 2, 3, 4] by decide) ⟨rfl, rfl, rfl, rfl, rfl, trivial⟩ (ih z16 z17 ⟨by omega, by omega⟩ ⟨by omega, by omega⟩ (pj_oin_0 hz16 x0_ (by omega)) (by omega) (by omega))
        | false =>
          have ub15 := pj_u_gtF b15
          refine pj_X_of (fun r h => pj_R_icF rfl b15 h) ?_
          refine pj_X_of (fun r h => pj_R_to (G0, 49, [(5, .int z6), (0, .ref 171), (1, .int hr), (2, .int w), (3, .int v3), (4, .int v4)], [.ref 171, .int v3], 0, 0) 49 2 (fun _ => rfl) h) ?_
          refine pj_X_of (fun r h => pj_T_gr hI rfl rfl rfl h) ?_
          refine pj_X_of (fun r h => pj_R_to (G0, 56, [(5, .int z6), (0, .ref 171), (1, .int hr), (2, .int w), (3, .int v3), (4, .int v4)], [.int ((Int32.ofInt 4) * v4), .ref 179, .int v3], 0, 0) 56 4 (fun _ => rfl) h) ?_
          obtain ⟨z21, hz21⟩ : ∃ z : Int32, z = (Int32.ofInt 4) * v4 := ⟨_, rfl⟩
          refine pj_X_eqi hz21.symm ?_
          have fz21_0 : z21.toInt = 4 * v4.toInt := by rw [hz21]; exact pj_mulL (by decide) (by omega) (by omega)
          refine pj_X_of (fun r h => pj_R_to (G0, 58, [(5, .int z6), (0, .ref 171), (1, .int hr), (2, .int w), (3, .int v3), (4, .int v4)], [.int (z21 + (Int32.ofInt 3)), .ref 179, .int v3], 0, 0) 58 3 (fun _ => rfl) h) ?_
          obtain ⟨z22, hz22⟩ : ∃ z : Int32, z = z21 + (Int32.ofInt 3) := ⟨_, rfl⟩
          refine pj_X_eqi hz22.symm ?_
          have fz22_0 : z22.toInt = z21.toInt + (Int32.ofInt 3).toInt := by rw [hz22]; exact pj_addI (by have := pj_i32 z21; have := pj_i32 (Int32.ofInt 3); omega) (by have := pj_i32 z21; have := pj_i32 (Int32.ofInt 3); omega)
          refine pj_X_of (fun r h => pj_T_il hI rfl rfl (by omega) (by omega) h) ?_
          show pj_X _ _ G0 59 [(5, .int z6), (0, .ref 171), (1, .int hr), (2, .int w), (3, .int v3), (4, .int v4)] [.int (pj_ai G0 179 z22.toInt.toNat), .int v3] _
          obtain ⟨z23, hz23⟩ : ∃ z : Int32, z = pj_ai G0 179 z22.toInt.toNat := ⟨_, rfl⟩
          refine pj_X_eqi hz23.symm ?_
          have ez23 : (pj_ai G0 179 z22.toInt.toNat).toInt = z23.toInt := by rw [hz23]
          refine pj_X_of (fun r h => pj_R_to (G0, 60, [(5, .int z6), (0, .ref 171), (1, .int hr), (2, .int w), (3, .int v3), (4, .int v4)], [.int w, .int z23, .int v3], 0, 0) 60 2 (fun _ => rfl) h) ?_
          cases b24 : pj_c1 .lt z23 w with
          | true =>
            have ub24 := pj_u_ltT b24
            refine pj_X_of (fun r h => pj_R_icT 70 rfl rfl b24 h) ?_
            refine pj_X_of (fun r h => pj_R_to (G0, 72, [(5, .int z6), (0, .ref 171), (1, .int hr), (2, .int w), (3, .int v3), (4, .int v4)], [.int (v3 ||| (Int32.ofInt 0))], 0, 0) 72 3 (fun _ => rfl) h) ?_
            obtain ⟨z25, hz25⟩ : ∃ z : Int32, z = v3 ||| (Int32.ofInt 0) := ⟨_, rfl⟩
            refine pj_X_eqi hz25.symm ?_
            have fz25_0 : 0 ≤ z25.toInt ∧ z25.toInt ≤ 1023 := by rw [hz25]; exact pj_orI1024 (by omega) (by omega) (by omega) (by omega)
            refine pj_X_of (fun r h => pj_R_to (G0, 76, [(4, .int (v4 + Int32.ofInt 1)), (3, .int z25), (5, .int z6), (0, .ref 171), (1, .int hr), (2, .int w)], [], 0, 0) 76 3 (fun _ => rfl) h) ?_
            obtain ⟨z26, hz26⟩ : ∃ z : Int32, z = v4 + Int32.ofInt 1 := ⟨_, rfl⟩
            rw [← hz26]
            have fz26_0 : z26.toInt = v4.toInt + (Int32.ofInt 1).toInt := by rw [hz26]; exact pj_addI (by have := pj_i32 v4; have := pj_i32 (Int32.ofInt 1); omega) (by have := pj_i32 v4; have := pj_i32 (Int32.ofInt 1); omega)
            refine pj_X_of (fun r h => pj_R_to (G0, 5, [(4, .int z26), (3, .int z25), (5, .int z6), (0, .ref 171), (1, .int hr), (2, .int w)], [], 0, 0) 5 2 (fun _ => rfl) h) ?_
            have q27 : (pj_fi G0 171 5).toInt = y1.toInt := by rw [show pj_fi G0 171 5 = y1 from hy1.symm]
            have k28 : (pj_ai G0 179 (4 * v4.toInt.toNat)).toInt = z6.toInt := by rw [hz6, show z5.toInt.toNat = 4 * v4.toInt.toNat by omega]
            have k29 : (pj_ai G0 179 (4 * v4.toInt.toNat + 1)).toInt = z14.toInt := by rw [hz14, show z13.toInt.toNat = 4 * v4.toInt.toNat + 1 by omega]
            have k30 : (pj_ai G0 179 (4 * v4.toInt.toNat + 3)).toInt = z23.toInt := by rw [hz23, show z22.toInt.toNat = 4 * v4.toInt.toNat + 3 by omega]
            exact pj_X_sub [(0, .ref 171), (1, .int hr), (2, .int w), (3, .int z25), (4, .int z26)] (show List.Nodup [0, 1, 2, 3, 4] by decide) ⟨rfl, rfl, rfl, rfl, rfl, trivial⟩ (ih z25 z26 ⟨by omega, by omega⟩ ⟨by omega, by omega⟩ (pj_oin_0 hz25 x0_ (by omega)) (by omega) (by omega))
          | false =>
            have ub24 := pj_u_ltF b24
            refine pj_X_of (fun r h => pj_R_icF rfl b24 h) ?_
            refine pj_X_of (fun r h => pj_R_to (G0, 67, [(5, .int z6), (0, .ref 171), (1, .int hr), (2, .int w), (3, .int v3), (4, .int v4)], [.int ((Int32.ofInt 1) <<< (z6 &&& 31)), .int v3], 0, 0) 67 4 (fun _ => rfl) h) ?_
            obtain ⟨z31, hz31⟩ : ∃ z : Int32, z = (Int32.ofInt 1) <<< (z6 &&& 31) := ⟨_, rfl⟩
            refine pj_X_eqi hz31.symm ?_
            have fz31_0 : 1 ≤ z31.toInt ∧ z31.toInt ≤ 512 := by rw [hz31]; exact pj_shlI9 (by omega) (by omega)
            refine pj_X_of (fun r h => pj_R_to (G0, 72, [(5, .int z6), (0, .ref 171), (1, .int hr), (2, .int w), (3, .int v3), (4, .int v4)], [.int (v3 ||| z31)], 0, 0) 72 3 (fun _ => rfl) h) ?_
            obtain ⟨z32, hz32⟩ : ∃ z : Int32, z = v3 ||| z31 := ⟨_, rfl⟩
            refine pj_X_eqi hz32.symm ?_
            have fz32_0 : 0 ≤ z32.toInt ∧ z32.toInt ≤ 1023 := by rw [hz32]; exact pj_orI1024 (by omega) (by omega) (by omega) (by omega)
            refine pj_X_of (fun r h => pj_R_to (G0, 76, [(4, .int (v4 + Int32.ofInt 1)), (3, .int z32), (5, .int z6), (0, .ref 171), (1, .int hr), (2, .int w)], [], 0, 0) 76 3 (fun _ => rfl) h) ?_
            obtain ⟨z33, hz33⟩ : ∃ z : Int32, z = v4 + Int32.ofInt 1 := ⟨_, rfl⟩
            rw [← hz33]
            have fz33_0 : z33.toInt = v4.toInt + (Int32.ofInt 1).toInt := by rw [hz33]; exact pj_addI (by have := pj_i32 v4; have := pj_i32 (Int32.ofInt 1); omega) (by have := pj_i32 v4; have := pj_i32 (Int32.ofInt 1); omega)
            refine pj_X_of (fun r h => pj_R_to (G0, 5, [(4, .int z33), (3, .int z32), (5, .int z6), (0, .ref 171), (1, .int hr), (2, .int w)], [], 0, 0) 5 2 (fun _ => rfl) h) ?_
            have q34 : (pj_fi G0 171 5).toInt = y1.toInt := by rw [show pj_fi G0 171 5 = y1 from hy1.symm]
            have k35 : (pj_ai G0 179 (4 * v4.toInt.toNat)).toInt = z6.toInt := by rw [hz6, show z5.toInt.toNat = 4 * v4.toInt.toNat by omega]
            have k36 : (pj_ai G0 179 (4 * v4.toInt.toNat + 1)).toInt = z14.toInt := by rw [hz14, show z13.toInt.toNat = 4 * v4.toInt.toNat + 1 by omega]
            have k37 : (pj_ai G0 179 (4 * v4.toInt.toNat + 3)).toInt = z23.toInt := by rw [hz23, show z22.toInt.toNat = 4 * v4.toInt.toNat + 3 by omega]
            exact pj_X_sub [(0, .ref 171), (1, .int hr), (2, .int w), (3, .int z32), (4, .int z33)] (show List.Nodup [0, 1, 2, 3, 4] by decide) ⟨rfl, rfl, rfl, rfl, rfl, trivial⟩ (ih z32 z33 ⟨by omega, by omega⟩ ⟨by omega, by omega⟩ (pj_oin_1 hz32 hz31 (by omega) (by omega) x0_ (by omega) v4.toInt.toNat (by omega) (by omega) (by omega)) (by omega) (by omega))
theorem ct_206 (G0 : pj_G) (hI : pj_Inv G0) (hr : Int32) (w : Int32) : pj_Y 1 206 [.ref 171, .int hr, .int w] G0 (fun v G' => ∃ y : Int32, v = some (.int y) ∧ G0 = G' ∧ ((0 : Int) ≤ y.toInt ∧ y.toInt ≤ 1023) ∧ (pj_oin G0 y (pj_fi G0 171 5).toInt hr)) := by
  have c0_ : (Int32.ofInt 0).toInt = 0 := by decide
  have c1_ : (Int32.ofInt 1).toInt = 1 := by decide
  have c2_ : (Int32.ofInt 3).toInt = 3 := by decide
  have c3_ : (Int32.ofInt 4).toInt = 4 := by decide
  refine pj_Y_X (M := pj_m206) rfl rfl (Nat.le_of_ble_eq_true rfl) ?_
  have hK : pj_kpt ([], [], []) G0 G0 := pj_kpt_r _ _
  show pj_X _ _ G0 0 [(0, .ref 171), (1, .int hr), (2, .int w)] [] _
  obtain ⟨y38, hy38⟩ : ∃ z : Int32, z = pj_fi G0 171 5 := ⟨_, rfl⟩
  have ey38 : (pj_fi G0 171 5).toInt = y38.toInt := by rw [hy38]
  have ry38 : (0 : Int) ≤ y38.toInt ∧ y38.toInt ≤ 6 := by rw [hy38]; exact hI.2.1 171 5 (0, 6) rfl
  refine pj_X_of (fun r h => pj_R_to (G0, 5, [(4, .int (Int32.ofInt 0)), (3, .int (Int32.ofInt 0)), (0, .ref 171), (1, .int hr), (2, .int w)], [], 0, 0) 5 5 (fun _ => rfl) h) ?_
  have q39 : (pj_fi G0 171 5).toInt = y38.toInt := by rw [show pj_fi G0 171 5 = y38 from hy38.symm]
  exact pj_X_sub [(0, .ref 171), (1, .int hr), (2, .int w), (3, .int (Int32.ofInt 0)), (4, .int (Int32.ofInt 0))] (show List.Nodup [0, 1, 2, 3, 4] by decide) ⟨rfl, rfl, rfl, rfl, rfl, trivial⟩ ((lp_ct_206 G0 hI hr w  7) (Int32.ofInt 0) (Int32.ofInt 0) ⟨by omega, by omega⟩ ⟨by omega, by omega⟩ pj_oin_z (by omega) (by omega))
