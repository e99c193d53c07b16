/-! CONTRACTS OF THE CLASS'S SMALL METHODS -/
theorem pj_mulR {x y : Int32} {n : Int} (h : y.toInt = n) (h1 : -2147483648 ≤ n * x.toInt) (h2 : n * x.toInt ≤ 2147483647) : (x * y).toInt = n * x.toInt := by
  rw [pj_mulI (by rw [h, Int.mul_comm]; exact h1) (by rw [h, Int.mul_comm]; exact h2), h, Int.mul_comm]
theorem pj_mulL {x y : Int32} {n : Int} (h : x.toInt = n) (h1 : -2147483648 ≤ n * y.toInt) (h2 : n * y.toInt ≤ 2147483647) : (x * y).toInt = n * y.toInt := by
  rw [pj_mulI (by rw [h]; exact h1) (by rw [h]; exact h2), h]
theorem pj_minI {x y : Int32} : (if y < x then y else x).toInt ≤ x.toInt ∧ (if y < x then y else x).toInt ≤ y.toInt ∧ ((if y < x then y else x).toInt = x.toInt ∨ (if y < x then y else x).toInt = y.toInt) := by
  split
  · rename_i h
    rw [Int32.lt_iff_toInt_lt] at h
    omega
  · rename_i h
    rw [Int32.lt_iff_toInt_lt] at h
    omega
theorem pj_maxI {x y : Int32} : x.toInt ≤ (if x < y then y else x).toInt ∧ y.toInt ≤ (if x < y then y else x).toInt ∧ ((if x < y then y else x).toInt = x.toInt ∨ (if x < y then y else x).toInt = y.toInt) := by
  split
  · rename_i h
    rw [Int32.lt_iff_toInt_lt] at h
    omega
  · rename_i h
    rw [Int32.lt_iff_toInt_lt] at h
    omega
theorem pj_X_ll {d : Nat} {M : pj_M} {G : pj_G} {pc : Nat} {L : pj_L} {S : List Value} {P : Option Value → pj_G → Prop} {len : Nat} {inf : List Nat} {z : Int} {a n : Nat} {l : List (List Nat)} {j : Int32} (hI : pj_Inv G) (hf : pj_find M.2.2.2.2.2 pc = some (.laload, len, inf, z)) (ht : pj_tat a = some (2, n, l)) (h0 : 0 ≤ j.toInt) (h1 : j.toInt < n) (h2 : ∀ x : Int64, pj_X d M G (pc + 1) L (.long x :: S) P) : pj_X d M G pc L (.int j :: .ref a :: S) P := by
  obtain ⟨f, hg, -⟩ := pj_t2_s hI.1 ht
  refine pj_X_of (fun r h => ?_) (h2 (f j.toNatClampNeg))
  refine pj_R_st (t' := (G, pc + 1, L, .long (f j.toNatClampNeg) :: S, 0, 0)) hf (fun call => ?_) h
  show (pj_rdl G (.int j :: .ref a :: S)).map (fun r => ((G, pc + 1, L, r, 0, 0) : pj_T)) = _
  have e : pj_rdl G (.int j :: .ref a :: S) = some (.long (f j.toNatClampNeg) :: S) := by
    unfold pj_rdl
    simp only [hg]
    exact if_pos ⟨trivial, pj_bnd h0 h1⟩
  rw [e]
  rfl
/-! FUNCTIONS OF METHODS: what a walk names, what it binds, where it parts -/
def pj_nm {α β : Type} (x : α) (k : α → β) : β := k x
theorem pj_nm_e {α β : Type} (x : α) (k : α → β) : pj_nm x k = k x := rfl
def pj_bd {α β γ : Type} (p : α × β) (k : α → β → γ) : γ := k p.1 p.2
theorem pj_bd_e {α β γ : Type} (x : α) (y : β) (k : α → β → γ) : pj_bd (x, y) k = k x y := rfl
theorem pj_cT {α : Type} (a b : α) : cond true a b = a := rfl
theorem pj_cF {α : Type} (a b : α) : cond false a b = b := rfl
def pj_rb (G : pj_G) (a k b : Nat) : Bool := match pj_fv G a k with
  | some (.ref n) => Nat.beq n b
  | _ => false
theorem pj_rb_t {G : pj_G} {a k b : Nat} (h : pj_fv G a k = some (.ref b)) : pj_rb G a k b = true := by
  unfold pj_rb
  rw [h]
  exact Nat.beq_refl b
theorem pj_rb_f {G : pj_G} {a k b c : Nat} (h : pj_fv G a k = some (.ref c)) (hn : Nat.beq c b = false) : pj_rb G a k b = false := by
  unfold pj_rb
  rw [h]
  exact hn
noncomputable def F_69_21x (G0 : pj_G) (b : Int32) : Int32 := pj_nm (pj_ai G0 22 b.toInt.toNat) (fun z1 => cond (pj_c1 .eq z1 (Int32.ofInt (-1))) (Int32.ofInt 0) (pj_nm (pj_ai G0 23 b.toInt.toNat) (fun z3 => cond (pj_c1 .ne z3 0) (Int32.ofInt 0) (Int32.ofInt 1))))
theorem F_69_21x_e (G0 : pj_G) (b : Int32) : F_69_21x G0 b = pj_nm (pj_ai G0 22 b.toInt.toNat) (fun z1 => cond (pj_c1 .eq z1 (Int32.ofInt (-1))) (Int32.ofInt 0) (pj_nm (pj_ai G0 23 b.toInt.toNat) (fun z3 => cond (pj_c1 .ne z3 0) (Int32.ofInt 0) (Int32.ofInt 1)))) := rfl
theorem ct_69_21x (G0 : pj_G) (hI : pj_Inv G0) (b : Int32) (rb : (0 : Int) ≤ b.toInt ∧ b.toInt ≤ 5) : pj_Y 1 69 [.ref 21, .int b] G0 (fun v' G' => ∃ y : Int32, v' = some (.int y) ∧ G0 = G' ∧ ((0 : Int) ≤ y.toInt ∧ y.toInt ≤ 1) ∧ (∀ H, G0 = H → (1 ≤ y.toInt → 0 ≤ (pj_ai H 22 b.toInt.toNat).toInt)) ∧ (y = F_69_21x G0 b)) := by
  have c0_ : (Int32.ofInt (-1)).toInt = -1 := by decide
  have c1_ : (Int32.ofInt 0).toInt = 0 := by decide
  have c2_ : (Int32.ofInt 1).toInt = 1 := by decide
  refine pj_Y_X (M := pj_m69) rfl rfl (Nat.le_of_ble_eq_true rfl) ?_
  have hK : pj_kpt ([], [], []) G0 G0 := pj_kpt_r _ _
  show pj_X _ _ G0 0 [(0, .ref 21), (1, .int b)] [] _
  rw [F_69_21x_e]
  refine pj_X_of (fun r h => pj_R_to (G0, 1, [(0, .ref 21), (1, .int b)], [.ref 21], 0, 0) 1 2 (fun _ => rfl) h) ?_
  refine pj_X_of (fun r h => pj_T_gr hI rfl rfl rfl h) ?_
  refine pj_X_of (fun r h => pj_R_to (G0, 5, [(0, .ref 21), (1, .int b)], [.int b, .ref 22], 0, 0) 5 2 (fun _ => rfl) h) ?_
  refine pj_X_of (fun r h => pj_T_il hI rfl rfl (by omega) (by omega) h) ?_
  show pj_X _ _ G0 6 [(0, .ref 21), (1, .int b)] [.int (pj_ai G0 22 b.toInt.toNat)] _
  obtain ⟨z1, hz1⟩ : ∃ z : Int32, z = pj_ai G0 22 b.toInt.toNat := ⟨_, rfl⟩
  rw [← hz1]
  rw [pj_nm_e]
  have ez1 : (pj_ai G0 22 b.toInt.toNat).toInt = z1.toInt := by rw [hz1]
  have fz1_0 : (-1 : Int) ≤ z1.toInt ∧ z1.toInt ≤ 9 ∧ (z1.toInt ≤ -1 ∨ -1 ≤ z1.toInt) := by rw [hz1]; exact hI.2.2.1 22 (6, -1, 9, -1, -1) rfl _ (by show _ < 6; omega)
  refine pj_X_of (fun r h => pj_R_to (G0, 7, [(0, .ref 21), (1, .int b)], [.int (Int32.ofInt (-1)), .int z1], 0, 0) 7 2 (fun _ => rfl) h) ?_
  cases b2 : pj_c1 .eq z1 (Int32.ofInt (-1)) with
  | true =>
    rw [pj_cT]
    have ub2 := pj_u_eqT b2
    refine pj_X_of (fun r h => pj_R_icT 23 rfl rfl b2 h) ?_
    refine pj_X_of (fun r h => pj_R_to (G0, 24, [(0, .ref 21), (1, .int b)], [.int (Int32.ofInt 0)], 0, 0) 24 2 (fun _ => rfl) h) ?_
    exact pj_X_rt rfl rfl ⟨_, rfl, rfl, ⟨by omega, by omega⟩, (fun H hH => by subst hH; exact (by omega)), rfl⟩
  | false =>
    rw [pj_cF]
    have ub2 := pj_u_eqF b2
    refine pj_X_of (fun r h => pj_R_icF rfl b2 h) ?_
    refine pj_X_of (fun r h => pj_R_to (G0, 11, [(0, .ref 21), (1, .int b)], [.ref 21], 0, 0) 11 2 (fun _ => rfl) h) ?_
    refine pj_X_of (fun r h => pj_T_gr hI rfl rfl rfl h) ?_
    refine pj_X_of (fun r h => pj_R_to (G0, 15, [(0, .ref 21), (1, .int b)], [.int b, .ref 23], 0, 0) 15 2 (fun _ => rfl) h) ?_
    refine pj_X_of (fun r h => pj_T_il hI rfl rfl (by omega) (by omega) h) ?_
    show pj_X _ _ G0 16 [(0, .ref 21), (1, .int b)] [.int (pj_ai G0 23 b.toInt.toNat)] _
    obtain ⟨z3, hz3⟩ : ∃ z : Int32, z = pj_ai G0 23 b.toInt.toNat := ⟨_, rfl⟩
    rw [← hz3]
    rw [pj_nm_e]
    have ez3 : (pj_ai G0 23 b.toInt.toNat).toInt = z3.toInt := by rw [hz3]
    cases b4 : pj_c1 .ne z3 0 with
    | true =>
      rw [pj_cT]
      have ub4 := pj_u0_neT b4
      refine pj_X_of (fun r h => pj_R_ifT 23 rfl rfl b4 h) ?_
      refine pj_X_of (fun r h => pj_R_to (G0, 24, [(0, .ref 21), (1, .int b)], [.int (Int32.ofInt 0)], 0, 0) 24 2 (fun _ => rfl) h) ?_
      exact pj_X_rt rfl rfl ⟨_, rfl, rfl, ⟨by omega, by omega⟩, (fun H hH => by subst hH; exact (by omega)), rfl⟩
    | false =>
      rw [pj_cF]
      have ub4 := pj_u0_neF b4
      refine pj_X_of (fun r h => pj_R_ifF rfl b4 h) ?_
      refine pj_X_of (fun r h => pj_R_to (G0, 24, [(0, .ref 21), (1, .int b)], [.int (Int32.ofInt 1)], 0, 0) 24 3 (fun _ => rfl) h) ?_
      exact pj_X_rt rfl rfl ⟨_, rfl, rfl, ⟨by omega, by omega⟩, (fun H hH => by subst hH; exact (by omega)), rfl⟩
theorem fr_69_21x (G0 : pj_G) (hI : pj_Inv G0) (b : Int32) (rb : (0 : Int) ≤ b.toInt ∧ b.toInt ≤ 5) : ((0 : Int) ≤ (F_69_21x G0 b).toInt ∧ (F_69_21x G0 b).toInt ≤ 1) ∧ (1 ≤ (F_69_21x G0 b).toInt → 0 ≤ (pj_ai G0 22 b.toInt.toNat).toInt) := by
  obtain ⟨v, G', -, y, -, rfl, r, x, e⟩ := ct_69_21x G0 hI b rb
  rw [← e]
  exact ⟨r, x _ rfl⟩
noncomputable def L_70_21x (G0 : pj_G) (c : Int32) (fu : Nat) : Int32 → Int32 := Nat.rec (motive := fun _ => Int32 → Int32) (fun _ => 0) (fun _ ih b => pj_nm (pj_fi G0 21 0) (fun y1 => cond (pj_c1 .ge b y1) (Int32.ofInt (-1)) (pj_nm (pj_ai G0 22 b.toInt.toNat) (fun z3 => cond (pj_c1 .ne z3 c) (pj_nm (b + Int32.ofInt 1) (fun z5 => ih z5)) (pj_nm (pj_ai G0 23 b.toInt.toNat) (fun z6 => cond (pj_c1 .ne z6 0) (pj_nm (b + Int32.ofInt 1) (fun z8 => ih z8)) (b))))))) fu
theorem L_70_21x_s0 (G0 : pj_G) (c : Int32) (fu : Nat) (b : Int32) : L_70_21x G0 c (fu + 1) b = pj_nm (pj_fi G0 21 0) (fun y1 => cond (pj_c1 .ge b y1) (Int32.ofInt (-1)) (pj_nm (pj_ai G0 22 b.toInt.toNat) (fun z3 => cond (pj_c1 .ne z3 c) (pj_nm (b + Int32.ofInt 1) (fun z5 => L_70_21x G0 c fu z5)) (pj_nm (pj_ai G0 23 b.toInt.toNat) (fun z6 => cond (pj_c1 .ne z6 0) (pj_nm (b + Int32.ofInt 1) (fun z8 => L_70_21x G0 c fu z8)) (b)))))) := rfl
noncomputable def F_70_21x (G0 : pj_G) (c : Int32) : Int32 := L_70_21x G0 c 7 (Int32.ofInt 0)
theorem F_70_21x_e (G0 : pj_G) (c : Int32) : F_70_21x G0 c = L_70_21x G0 c 7 (Int32.ofInt 0) := rfl
theorem lp_ct_70_21x (G0 : pj_G) (hI : pj_Inv G0) (c : Int32) : ∀ mn : Nat, (∀ (b : Int32), ((0 : Int) ≤ b.toInt ∧ b.toInt ≤ 6) → 6 - b.toInt < (mn : Int) → pj_X 0 pj_m70 G0 2 [(2, .int b), (0, .ref 21), (1, .int c)] [] (fun v' G' => ∃ y : Int32, v' = some (.int y) ∧ G0 = G' ∧ ((-1 : Int) ≤ y.toInt ∧ y.toInt ≤ 5) ∧ (y = L_70_21x G0 c mn b))) := by
  have c0_ : (Int32.ofInt (-1)).toInt = -1 := by decide
  have c1_ : (Int32.ofInt 0).toInt = 0 := by decide
  have c2_ : (Int32.ofInt 1).toInt = 1 := by decide
  have hK : pj_kpt ([], [], []) G0 G0 := pj_kpt_r _ _
  intro mn
  induction mn with
  | zero =>
    intro b rb hm
    exfalso
    omega
  | succ mn ih =>
    intro b rb hm
    rw [L_70_21x_s0]
    refine pj_X_of (fun r h => pj_R_to (G0, 4, [(2, .int b), (0, .ref 21), (1, .int c)], [.ref 21, .int b], 0, 0) 4 3 (fun _ => rfl) h) ?_
    refine pj_X_of (fun r h => pj_T_gi hI rfl rfl h) ?_
    show pj_X _ _ G0 7 [(2, .int b), (0, .ref 21), (1, .int c)] [.int (pj_fi G0 21 0), .int b] _
    obtain ⟨y1, hy1⟩ : ∃ z : Int32, z = pj_fi G0 21 0 := ⟨_, rfl⟩
    rw [← hy1]
    rw [pj_nm_e]
    have ey1 : (pj_fi G0 21 0).toInt = y1.toInt := by rw [hy1]
    have ry1 : (0 : Int) ≤ y1.toInt ∧ y1.toInt ≤ 6 := by rw [hy1]; exact hI.2.1 21 0 (0, 6) rfl
    cases b2 : pj_c1 .ge b y1 with
    | true =>
      rw [pj_cT]
      have ub2 := pj_u_geT b2
      refine pj_X_of (fun r h => pj_R_icT 37 rfl rfl b2 h) ?_
      refine pj_X_of (fun r h => pj_R_to (G0, 38, [(2, .int b), (0, .ref 21), (1, .int c)], [.int (Int32.ofInt (-1))], 0, 0) 38 2 (fun _ => rfl) h) ?_
      exact pj_X_rt rfl rfl ⟨_, rfl, rfl, ⟨by omega, by omega⟩, rfl⟩
    | false =>
      rw [pj_cF]
      have ub2 := pj_u_geF b2
      refine pj_X_of (fun r h => pj_R_icF rfl b2 h) ?_
      refine pj_X_of (fun r h => pj_R_to (G0, 11, [(2, .int b), (0, .ref 21), (1, .int c)], [.ref 21], 0, 0) 11 2 (fun _ => rfl) h) ?_
      refine pj_X_of (fun r h => pj_T_gr hI rfl rfl rfl h) ?_
      refine pj_X_of (fun r h => pj_R_to (G0, 15, [(2, .int b), (0, .ref 21), (1, .int c)], [.int b, .ref 22], 0, 0) 15 2 (fun _ => rfl) h) ?_
      refine pj_X_of (fun r h => pj_T_il hI rfl rfl (by omega) (by omega) h) ?_
      show pj_X _ _ G0 16 [(2, .int b), (0, .ref 21), (1, .int c)] [.int (pj_ai G0 22 b.toInt.toNat)] _
      obtain ⟨z3, hz3⟩ : ∃ z : Int32, z = pj_ai G0 22 b.toInt.toNat := ⟨_, rfl⟩
      rw [← hz3]
      rw [pj_nm_e]
      have ez3 : (pj_ai G0 22 b.toInt.toNat).toInt = z3.toInt := by rw [hz3]
      have fz3_0 : (-1 : Int) ≤ z3.toInt ∧ z3.toInt ≤ 9 ∧ (z3.toInt ≤ -1 ∨ -1 ≤ z3.toInt) := by rw [hz3]; exact hI.2.2.1 22 (6, -1, 9, -1, -1) rfl _ (by show _ < 6; omega)
      refine pj_X_of (fun r h => pj_R_to (G0, 17, [(2, .int b), (0, .ref 21), (1, .int c)], [.int c, .int z3], 0, 0) 17 2 (fun _ => rfl) h) ?_
      cases b4 : pj_c1 .ne z3 c with
      | true =>
        rw [pj_cT]
        have ub4 := pj_u_neT b4
        refine pj_X_of (fun r h => pj_R_icT 31 rfl rfl b4 h) ?_
        refine pj_X_of (fun r h => pj_R_to (G0, 34, [(2, .int (b + Int32.ofInt 1)), (0, .ref 21), (1, .int c)], [], 0, 0) 34 2 (fun _ => rfl) h) ?_
        obtain ⟨z5, hz5⟩ : ∃ z : Int32, z = b + Int32.ofInt 1 := ⟨_, rfl⟩
        rw [← hz5]
        rw [pj_nm_e]
        have fz5_0 : z5.toInt = b.toInt + (Int32.ofInt 1).toInt := by rw [hz5]; exact pj_addI (by have := pj_i32 b; have := pj_i32 (Int32.ofInt 1); omega) (by have := pj_i32 b; have := pj_i32 (Int32.ofInt 1); omega)
        refine pj_X_of (fun r h => pj_R_to (G0, 2, [(2, .int z5), (0, .ref 21), (1, .int c)], [], 0, 0) 2 2 (fun _ => rfl) h) ?_
        exact pj_X_sub [(2, .int z5), (0, .ref 21), (1, .int c)] (show List.Nodup [2, 0, 1] by decide) ⟨rfl, rfl, rfl, trivial⟩ (ih z5 ⟨by omega, by omega⟩ (by omega))
      | false =>
        rw [pj_cF]
        have ub4 := pj_u_neF b4
        refine pj_X_of (fun r h => pj_R_icF rfl b4 h) ?_
        refine pj_X_of (fun r h => pj_R_to (G0, 21, [(2, .int b), (0, .ref 21), (1, .int c)], [.ref 21], 0, 0) 21 2 (fun _ => rfl) h) ?_
        refine pj_X_of (fun r h => pj_T_gr hI rfl rfl rfl h) ?_
        refine pj_X_of (fun r h => pj_R_to (G0, 25, [(2, .int b), (0, .ref 21), (1, .int c)], [.int b, .ref 23], 0, 0) 25 2 (fun _ => rfl) h) ?_
        refine pj_X_of (fun r h => pj_T_il hI rfl rfl (by omega) (by omega) h) ?_
        show pj_X _ _ G0 26 [(2, .int b), (0, .ref 21), (1, .int c)] [.int (pj_ai G0 23 b.toInt.toNat)] _
        obtain ⟨z6, hz6⟩ : ∃ z : Int32, z = pj_ai G0 23 b.toInt.toNat := ⟨_, rfl⟩
        rw [← hz6]
        rw [pj_nm_e]
        have ez6 : (pj_ai G0 23 b.toInt.toNat).toInt = z6.toInt := by rw [hz6]
        cases b7 : pj_c1 .ne z6 0 with
        | true =>
          rw [pj_cT]
          have ub7 := pj_u0_neT b7
          refine pj_X_of (fun r h => pj_R_ifT 31 rfl rfl b7 h) ?_
          refine pj_X_of (fun r h => pj_R_to (G0, 34, [(2, .int (b + Int32.ofInt 1)), (0, .ref 21), (1, .int c)], [], 0, 0) 34 2 (fun _ => rfl) h) ?_
          obtain ⟨z8, hz8⟩ : ∃ z : Int32, z = b + Int32.ofInt 1 := ⟨_, rfl⟩
          rw [← hz8]
          rw [pj_nm_e]
          have fz8_0 : z8.toInt = b.toInt + (Int32.ofInt 1).toInt := by rw [hz8]; exact pj_addI (by have := pj_i32 b; have := pj_i32 (Int32.ofInt 1); omega) (by have := pj_i32 b; have := pj_i32 (Int32.ofInt 1); omega)
          refine pj_X_of (fun r h => pj_R_to (G0, 2, [(2, .int z8), (0, .ref 21), (1, .int c)], [], 0, 0) 2 2 (fun _ => rfl) h) ?_
          exact pj_X_sub [(2, .int z8), (0, .ref 21), (1, .int c)] (show List.Nodup [2, 0, 1] by decide) ⟨rfl, rfl, rfl, trivial⟩ (ih z8 ⟨by omega, by omega⟩ (by omega))
        | false =>
          rw [pj_cF]
          have ub7 := pj_u0_neF b7
          refine pj_X_of (fun r h => pj_R_ifF rfl b7 h) ?_
          refine pj_X_of (fun r h => pj_R_to (G0, 30, [(2, .int b), (0, .ref 21), (1, .int c)], [.int b], 0, 0) 30 2 (fun _ => rfl) h) ?_
          exact pj_X_rt rfl rfl ⟨_, rfl, rfl, ⟨by omega, by omega⟩, rfl⟩
theorem ct_70_21x (G0 : pj_G) (hI : pj_Inv G0) (c : Int32) : pj_Y 1 70 [.ref 21, .int c] G0 (fun v' G' => ∃ y : Int32, v' = some (.int y) ∧ G0 = G' ∧ ((-1 : Int) ≤ y.toInt ∧ y.toInt ≤ 5) ∧ (y = F_70_21x G0 c)) := by
  have c0_ : (Int32.ofInt (-1)).toInt = -1 := by decide
  have c1_ : (Int32.ofInt 0).toInt = 0 := by decide
  have c2_ : (Int32.ofInt 1).toInt = 1 := by decide
  refine pj_Y_X (M := pj_m70) rfl rfl (Nat.le_of_ble_eq_true rfl) ?_
  have hK : pj_kpt ([], [], []) G0 G0 := pj_kpt_r _ _
  show pj_X _ _ G0 0 [(0, .ref 21), (1, .int c)] [] _
  rw [F_70_21x_e]
  refine pj_X_of (fun r h => pj_R_to (G0, 2, [(2, .int (Int32.ofInt 0)), (0, .ref 21), (1, .int c)], [], 0, 0) 2 3 (fun _ => rfl) h) ?_
  exact pj_X_sub [(2, .int (Int32.ofInt 0)), (0, .ref 21), (1, .int c)] (show List.Nodup [2, 0, 1] by decide) ⟨rfl, rfl, rfl, trivial⟩ ((lp_ct_70_21x G0 hI c  7) (Int32.ofInt 0) ⟨by omega, by omega⟩ (by omega))
theorem fr_70_21x (G0 : pj_G) (hI : pj_Inv G0) (c : Int32) : ((-1 : Int) ≤ (F_70_21x G0 c).toInt ∧ (F_70_21x G0 c).toInt ≤ 5) := by
  obtain ⟨v, G', -, y, -, rfl, r, e⟩ := ct_70_21x G0 hI c
  rw [← e]
  exact r
noncomputable def L_71_21x (G0 : pj_G) (c : Int32) (fu : Nat) : Int32 → Int32 := Nat.rec (motive := fun _ => Int32 → Int32) (fun _ => 0) (fun _ ih b => pj_nm (pj_fi G0 21 0) (fun y1 => cond (pj_c1 .ge b y1) (Int32.ofInt (-1)) (pj_nm (pj_ai G0 22 b.toInt.toNat) (fun z3 => cond (pj_c1 .ne z3 c) (pj_nm (b + Int32.ofInt 1) (fun z5 => ih z5)) (pj_nm (pj_ai G0 23 b.toInt.toNat) (fun z6 => cond (pj_c1 .le z6 0) (pj_nm (b + Int32.ofInt 1) (fun z8 => ih z8)) (b))))))) fu
theorem L_71_21x_s0 (G0 : pj_G) (c : Int32) (fu : Nat) (b : Int32) : L_71_21x G0 c (fu + 1) b = pj_nm (pj_fi G0 21 0) (fun y1 => cond (pj_c1 .ge b y1) (Int32.ofInt (-1)) (pj_nm (pj_ai G0 22 b.toInt.toNat) (fun z3 => cond (pj_c1 .ne z3 c) (pj_nm (b + Int32.ofInt 1) (fun z5 => L_71_21x G0 c fu z5)) (pj_nm (pj_ai G0 23 b.toInt.toNat) (fun z6 => cond (pj_c1 .le z6 0) (pj_nm (b + Int32.ofInt 1) (fun z8 => L_71_21x G0 c fu z8)) (b)))))) := rfl
noncomputable def F_71_21x (G0 : pj_G) (c : Int32) : Int32 := L_71_21x G0 c 7 (Int32.ofInt 0)
theorem F_71_21x_e (G0 : pj_G) (c : Int32) : F_71_21x G0 c = L_71_21x G0 c 7 (Int32.ofInt 0) := rfl
theorem lp_ct_71_21x (G0 : pj_G) (hI : pj_Inv G0) (c : Int32) : ∀ mn : Nat, (∀ (b : Int32), ((0 : Int) ≤ b.toInt ∧ b.toInt ≤ 6) → 6 - b.toInt < (mn : Int) → pj_X 0 pj_m71 G0 2 [(2, .int b), (0, .ref 21), (1, .int c)] [] (fun v' G' => ∃ y : Int32, v' = some (.int y) ∧ G0 = G' ∧ ((-1 : Int) ≤ y.toInt ∧ y.toInt ≤ 5) ∧ (y = L_71_21x G0 c mn b))) := by
  have c0_ : (Int32.ofInt (-1)).toInt = -1 := by decide
  have c1_ : (Int32.ofInt 0).toInt = 0 := by decide
  have c2_ : (Int32.ofInt 1).toInt = 1 := by decide
  have hK : pj_kpt ([], [], []) G0 G0 := pj_kpt_r _ _
  intro mn
  induction mn with
  | zero =>
    intro b rb hm
    exfalso
    omega
  | succ mn ih =>
    intro b rb hm
    rw [L_71_21x_s0]
    refine pj_X_of (fun r h => pj_R_to (G0, 4, [(2, .int b), (0, .ref 21), (1, .int c)], [.ref 21, .int b], 0, 0) 4 3 (fun _ => rfl) h) ?_
    refine pj_X_of (fun r h => pj_T_gi hI rfl rfl h) ?_
    show pj_X _ _ G0 7 [(2, .int b), (0, .ref 21), (1, .int c)] [.int (pj_fi G0 21 0), .int b] _
    obtain ⟨y1, hy1⟩ : ∃ z : Int32, z = pj_fi G0 21 0 := ⟨_, rfl⟩
    rw [← hy1]
    rw [pj_nm_e]
    have ey1 : (pj_fi G0 21 0).toInt = y1.toInt := by rw [hy1]
    have ry1 : (0 : Int) ≤ y1.toInt ∧ y1.toInt ≤ 6 := by rw [hy1]; exact hI.2.1 21 0 (0, 6) rfl
    cases b2 : pj_c1 .ge b y1 with
    | true =>
      rw [pj_cT]
      have ub2 := pj_u_geT b2
      refine pj_X_of (fun r h => pj_R_icT 37 rfl rfl b2 h) ?_
      refine pj_X_of (fun r h => pj_R_to (G0, 38, [(2, .int b), (0, .ref 21), (1, .int c)], [.int (Int32.ofInt (-1))], 0, 0) 38 2 (fun _ => rfl) h) ?_
      exact pj_X_rt rfl rfl ⟨_, rfl, rfl, ⟨by omega, by omega⟩, rfl⟩
    | false =>
      rw [pj_cF]
      have ub2 := pj_u_geF b2
      refine pj_X_of (fun r h => pj_R_icF rfl b2 h) ?_
      refine pj_X_of (fun r h => pj_R_to (G0, 11, [(2, .int b), (0, .ref 21), (1, .int c)], [.ref 21], 0, 0) 11 2 (fun _ => rfl) h) ?_
      refine pj_X_of (fun r h => pj_T_gr hI rfl rfl rfl h) ?_
      refine pj_X_of (fun r h => pj_R_to (G0, 15, [(2, .int b), (0, .ref 21), (1, .int c)], [.int b, .ref 22], 0, 0) 15 2 (fun _ => rfl) h) ?_
      refine pj_X_of (fun r h => pj_T_il hI rfl rfl (by omega) (by omega) h) ?_
      show pj_X _ _ G0 16 [(2, .int b), (0, .ref 21), (1, .int c)] [.int (pj_ai G0 22 b.toInt.toNat)] _
      obtain ⟨z3, hz3⟩ : ∃ z : Int32, z = pj_ai G0 22 b.toInt.toNat := ⟨_, rfl⟩
      rw [← hz3]
      rw [pj_nm_e]
      have ez3 : (pj_ai G0 22 b.toInt.toNat).toInt = z3.toInt := by rw [hz3]
      have fz3_0 : (-1 : Int) ≤ z3.toInt ∧ z3.toInt ≤ 9 ∧ (z3.toInt ≤ -1 ∨ -1 ≤ z3.toInt) := by rw [hz3]; exact hI.2.2.1 22 (6, -1, 9, -1, -1) rfl _ (by show _ < 6; omega)
      refine pj_X_of (fun r h => pj_R_to (G0, 17, [(2, .int b), (0, .ref 21), (1, .int c)], [.int c, .int z3], 0, 0) 17 2 (fun _ => rfl) h) ?_
      cases b4 : pj_c1 .ne z3 c with
      | true =>
        rw [pj_cT]
        have ub4 := pj_u_neT b4
        refine pj_X_of (fun r h => pj_R_icT 31 rfl rfl b4 h) ?_
        refine pj_X_of (fun r h => pj_R_to (G0, 34, [(2, .int (b + Int32.ofInt 1)), (0, .ref 21), (1, .int c)], [], 0, 0) 34 2 (fun _ => rfl) h) ?_
        obtain ⟨z5, hz5⟩ : ∃ z : Int32, z = b + Int32.ofInt 1 := ⟨_, rfl⟩
        rw [← hz5]
        rw [pj_nm_e]
        have fz5_0 : z5.toInt = b.toInt + (Int32.ofInt 1).toInt := by rw [hz5]; exact pj_addI (by have := pj_i32 b; have := pj_i32 (Int32.ofInt 1); omega) (by have := pj_i32 b; have := pj_i32 (Int32.ofInt 1); omega)
        refine pj_X_of (fun r h => pj_R_to (G0, 2, [(2, .int z5), (0, .ref 21), (1, .int c)], [], 0, 0) 2 2 (fun _ => rfl) h) ?_
        exact pj_X_sub [(2, .int z5), (0, .ref 21), (1, .int c)] (show List.Nodup [2, 0, 1] by decide) ⟨rfl, rfl, rfl, trivial⟩ (ih z5 ⟨by omega, by omega⟩ (by omega))
      | false =>
        rw [pj_cF]
        have ub4 := pj_u_neF b4
        refine pj_X_of (fun r h => pj_R_icF rfl b4 h) ?_
        refine pj_X_of (fun r h => pj_R_to (G0, 21, [(2, .int b), (0, .ref 21), (1, .int c)], [.ref 21], 0, 0) 21 2 (fun _ => rfl) h) ?_
        refine pj_X_of (fun r h => pj_T_gr hI rfl rfl rfl h) ?_
        refine pj_X_of (fun r h => pj_R_to (G0, 25, [(2, .int b), (0, .ref 21), (1, .int c)], [.int b, .ref 23], 0, 0) 25 2 (fun _ => rfl) h) ?_
        refine pj_X_of (fun r h => pj_T_il hI rfl rfl (by omega) (by omega) h) ?_
        show pj_X _ _ G0 26 [(2, .int b), (0, .ref 21), (1, .int c)] [.int (pj_ai G0 23 b.toInt.toNat)] _
        obtain ⟨z6, hz6⟩ : ∃ z : Int32, z = pj_ai G0 23 b.toInt.toNat := ⟨_, rfl⟩
        rw [← hz6]
        rw [pj_nm_e]
        have ez6 : (pj_ai G0 23 b.toInt.toNat).toInt = z6.toInt := by rw [hz6]
        cases b7 : pj_c1 .le z6 0 with
        | true =>
          rw [pj_cT]
          have ub7 := pj_u0_leT b7
          refine pj_X_of (fun r h => pj_R_ifT 31 rfl rfl b7 h) ?_
          refine pj_X_of (fun r h => pj_R_to (G0, 34, [(2, .int (b + Int32.ofInt 1)), (0, .ref 21), (1, .int c)], [], 0, 0) 34 2 (fun _ => rfl) h) ?_
          obtain ⟨z8, hz8⟩ : ∃ z : Int32, z = b + Int32.ofInt 1 := ⟨_, rfl⟩
          rw [← hz8]
          rw [pj_nm_e]
          have fz8_0 : z8.toInt = b.toInt + (Int32.ofInt 1).toInt := by rw [hz8]; exact pj_addI (by have := pj_i32 b; have := pj_i32 (Int32.ofInt 1); omega) (by have := pj_i32 b; have := pj_i32 (Int32.ofInt 1); omega)
          refine pj_X_of (fun r h => pj_R_to (G0, 2, [(2, .int z8), (0, .ref 21), (1, .int c)], [], 0, 0) 2 2 (fun _ => rfl) h) ?_
          exact pj_X_sub [(2, .int z8), (0, .ref 21), (1, .int c)] (show List.Nodup [2, 0, 1] by decide) ⟨rfl, rfl, rfl, trivial⟩ (ih z8 ⟨by omega, by omega⟩ (by omega))
        | false =>
          rw [pj_cF]
          have ub7 := pj_u0_leF b7
          refine pj_X_of (fun r h => pj_R_ifF rfl b7 h) ?_
          refine pj_X_of (fun r h => pj_R_to (G0, 30, [(2, .int b), (0, .ref 21), (1, .int c)], [.int b], 0, 0) 30 2 (fun _ => rfl) h) ?_
          exact pj_X_rt rfl rfl ⟨_, rfl, rfl, ⟨by omega, by omega⟩, rfl⟩
theorem ct_71_21x (G0 : pj_G) (hI : pj_Inv G0) (c : Int32) : pj_Y 1 71 [.ref 21, .int c] G0 (fun v' G' => ∃ y : Int32, v' = some (.int y) ∧ G0 = G' ∧ ((-1 : Int) ≤ y.toInt ∧ y.toInt ≤ 5) ∧ (y = F_71_21x G0 c)) := by
  have c0_ : (Int32.ofInt (-1)).toInt = -1 := by decide
  have c1_ : (Int32.ofInt 0).toInt = 0 := by decide
  have c2_ : (Int32.ofInt 1).toInt = 1 := by decide
  refine pj_Y_X (M := pj_m71) rfl rfl (Nat.le_of_ble_eq_true rfl) ?_
  have hK : pj_kpt ([], [], []) G0 G0 := pj_kpt_r _ _
  show pj_X _ _ G0 0 [(0, .ref 21), (1, .int c)] [] _
  rw [F_71_21x_e]
  refine pj_X_of (fun r h => pj_R_to (G0, 2, [(2, .int (Int32.ofInt 0)), (0, .ref 21), (1, .int c)], [], 0, 0) 2 3 (fun _ => rfl) h) ?_
  exact pj_X_sub [(2, .int (Int32.ofInt 0)), (0, .ref 21), (1, .int c)] (show List.Nodup [2, 0, 1] by decide) ⟨rfl, rfl, rfl, trivial⟩ ((lp_ct_71_21x G0 hI c  7) (Int32.ofInt 0) ⟨by omega, by omega⟩ (by omega))
theorem fr_71_21x (G0 : pj_G) (hI : pj_Inv G0) (c : Int32) : ((-1 : Int) ≤ (F_71_21x G0 c).toInt ∧ (F_71_21x G0 c).toInt ≤ 5) := by
  obtain ⟨v, G', -, y, -, rfl, r, e⟩ := ct_71_21x G0 hI c
  rw [← e]
  exact r
noncomputable def F_72_21x (G0 : pj_G) (c : Int32) : Int32 := pj_nm (F_70_21x G0 c) (fun y1 => cond (pj_c1 .ne y1 (Int32.ofInt (-1))) (Int32.ofInt 0) (pj_nm (F_71_21x G0 c) (fun y3 => cond (pj_c1 .ne y3 (Int32.ofInt (-1))) (Int32.ofInt 0) (Int32.ofInt 1))))
theorem F_72_21x_e (G0 : pj_G) (c : Int32) : F_72_21x G0 c = pj_nm (F_70_21x G0 c) (fun y1 => cond (pj_c1 .ne y1 (Int32.ofInt (-1))) (Int32.ofInt 0) (pj_nm (F_71_21x G0 c) (fun y3 => cond (pj_c1 .ne y3 (Int32.ofInt (-1))) (Int32.ofInt 0) (Int32.ofInt 1)))) := rfl
theorem ct_72_21x (G0 : pj_G) (hI : pj_Inv G0) (c : Int32) : pj_Y 2 72 [.ref 21, .int c] G0 (fun v' G' => ∃ y : Int32, v' = some (.int y) ∧ G0 = G' ∧ ((0 : Int) ≤ y.toInt ∧ y.toInt ≤ 1) ∧ (y = F_72_21x G0 c)) := by
  have c0_ : (Int32.ofInt (-1)).toInt = -1 := by decide
  have c1_ : (Int32.ofInt 0).toInt = 0 := by decide
  have c2_ : (Int32.ofInt 1).toInt = 1 := by decide
  refine pj_Y_X (M := pj_m72) rfl rfl (Nat.le_of_ble_eq_true rfl) ?_
  have hK : pj_kpt ([], [], []) G0 G0 := pj_kpt_r _ _
  show pj_X _ _ G0 0 [(0, .ref 21), (1, .int c)] [] _
  rw [F_72_21x_e]
  refine pj_X_of (fun r h => pj_R_to (G0, 2, [(0, .ref 21), (1, .int c)], [.int c, .ref 21], 0, 0) 2 3 (fun _ => rfl) h) ?_
  refine pj_X_ca (vs := [.ref 21, .int c]) rfl (fun _ => rfl) ⟨Nat.le_of_ble_eq_true rfl, Nat.le_of_ble_eq_true rfl, pj_T_rcv hI rfl⟩ ⟨rfl, rfl⟩ (pj_Y_up (by decide) (ct_70_21x G0 hI c)) ?_
  rintro _ _ ⟨y1, rfl, rfl, ry1, fy1⟩
  rw [← fy1, pj_nm_e]
  show pj_X _ _ G0 5 [(0, .ref 21), (1, .int c)] [.int y1] _
  refine pj_X_of (fun r h => pj_R_to (G0, 6, [(0, .ref 21), (1, .int c)], [.int (Int32.ofInt (-1)), .int y1], 0, 0) 6 2 (fun _ => rfl) h) ?_
  cases b2 : pj_c1 .ne y1 (Int32.ofInt (-1)) with
  | true =>
    rw [pj_cT]
    have ub2 := pj_u_neT b2
    refine pj_X_of (fun r h => pj_R_icT 22 rfl rfl b2 h) ?_
    refine pj_X_of (fun r h => pj_R_to (G0, 23, [(0, .ref 21), (1, .int c)], [.int (Int32.ofInt 0)], 0, 0) 23 2 (fun _ => rfl) h) ?_
    exact pj_X_rt rfl rfl ⟨_, rfl, rfl, ⟨by omega, by omega⟩, rfl⟩
  | false =>
    rw [pj_cF]
    have ub2 := pj_u_neF b2
    refine pj_X_of (fun r h => pj_R_icF rfl b2 h) ?_
    refine pj_X_of (fun r h => pj_R_to (G0, 11, [(0, .ref 21), (1, .int c)], [.int c, .ref 21], 0, 0) 11 3 (fun _ => rfl) h) ?_
    refine pj_X_ca (vs := [.ref 21, .int c]) rfl (fun _ => rfl) ⟨Nat.le_of_ble_eq_true rfl, Nat.le_of_ble_eq_true rfl, pj_T_rcv hI rfl⟩ ⟨rfl, rfl⟩ (pj_Y_up (by decide) (ct_71_21x G0 hI c)) ?_
    rintro _ _ ⟨y3, rfl, rfl, ry3, fy3⟩
    rw [← fy3, pj_nm_e]
    show pj_X _ _ G0 14 [(0, .ref 21), (1, .int c)] [.int y3] _
    refine pj_X_of (fun r h => pj_R_to (G0, 15, [(0, .ref 21), (1, .int c)], [.int (Int32.ofInt (-1)), .int y3], 0, 0) 15 2 (fun _ => rfl) h) ?_
    cases b4 : pj_c1 .ne y3 (Int32.ofInt (-1)) with
    | true =>
      rw [pj_cT]
      have ub4 := pj_u_neT b4
      refine pj_X_of (fun r h => pj_R_icT 22 rfl rfl b4 h) ?_
      refine pj_X_of (fun r h => pj_R_to (G0, 23, [(0, .ref 21), (1, .int c)], [.int (Int32.ofInt 0)], 0, 0) 23 2 (fun _ => rfl) h) ?_
      exact pj_X_rt rfl rfl ⟨_, rfl, rfl, ⟨by omega, by omega⟩, rfl⟩
    | false =>
      rw [pj_cF]
      have ub4 := pj_u_neF b4
      refine pj_X_of (fun r h => pj_R_icF rfl b4 h) ?_
      refine pj_X_of (fun r h => pj_R_to (G0, 23, [(0, .ref 21), (1, .int c)], [.int (Int32.ofInt 1)], 0, 0) 23 3 (fun _ => rfl) h) ?_
      exact pj_X_rt rfl rfl ⟨_, rfl, rfl, ⟨by omega, by omega⟩, rfl⟩
theorem fr_72_21x (G0 : pj_G) (hI : pj_Inv G0) (c : Int32) : ((0 : Int) ≤ (F_72_21x G0 c).toInt ∧ (F_72_21x G0 c).toInt ≤ 1) := by
  obtain ⟨v, G', -, y, -, rfl, r, e⟩ := ct_72_21x G0 hI c
  rw [← e]
  exact r
theorem lp_ct_73_21 (G0 : pj_G) (hI : pj_Inv G0) : ∀ mn : Nat, (∀ (b : Int32) (v : Int32), ((0 : Int) ≤ b.toInt ∧ b.toInt ≤ 6) → ((-2147483648 : Int) ≤ v.toInt ∧ v.toInt ≤ 2147483647) → 6 - b.toInt < (mn : Int) → pj_X 0 pj_m73 G0 4 [(2, .int b), (0, .ref 21), (1, .int v)] [] (fun v G' => ∃ y : Int32, v = some (.int y) ∧ G0 = G' ∧ ((-2147483648 : Int) ≤ y.toInt ∧ y.toInt ≤ 2147483647))) := by
  have c0_ : (Int32.ofInt (-1)).toInt = -1 := by decide
  have c1_ : (Int32.ofInt 0).toInt = 0 := by decide
  have c2_ : (Int32.ofInt 1).toInt = 1 := by decide
  have hK : pj_kpt ([], [], []) G0 G0 := pj_kpt_r _ _
  intro mn
  induction mn with
  | zero =>
    intro b v rb rv hm
    exfalso
    omega
  | succ mn ih =>
    intro b v rb rv hm
    refine pj_X_of (fun r h => pj_R_to (G0, 6, [(2, .int b), (0, .ref 21), (1, .int v)], [.ref 21, .int b], 0, 0) 6 3 (fun _ => rfl) h) ?_
    refine pj_X_of (fun r h => pj_T_gi hI rfl rfl h) ?_
    show pj_X _ _ G0 9 [(2, .int b), (0, .ref 21), (1, .int v)] [.int (pj_fi G0 21 0), .int b] _
    obtain ⟨y1, hy1⟩ : ∃ z : Int32, z = pj_fi G0 21 0 := ⟨_, rfl⟩
    rw [← hy1]
    have ey1 : (pj_fi G0 21 0).toInt = y1.toInt := by rw [hy1]
    have ry1 : (0 : Int) ≤ y1.toInt ∧ y1.toInt ≤ 6 := by rw [hy1]; exact hI.2.1 21 0 (0, 6) rfl
    cases b2 : pj_c1 .ge b y1 with
    | true =>
      have ub2 := pj_u_geT b2
      refine pj_X_of (fun r h => pj_R_icT 47 rfl rfl b2 h) ?_
      refine pj_X_of (fun r h => pj_R_to (G0, 48, [(2, .int b), (0, .ref 21), (1, .int v)], [.int v], 0, 0) 48 2 (fun _ => rfl) h) ?_
      exact pj_X_rt rfl rfl ⟨_, rfl, rfl, pj_i32 _⟩
    | false =>
      have ub2 := pj_u_geF b2
      refine pj_X_of (fun r h => pj_R_icF rfl b2 h) ?_
      refine pj_X_of (fun r h => pj_R_to (G0, 14, [(2, .int b), (0, .ref 21), (1, .int v)], [.ref 21, .int v], 0, 0) 14 3 (fun _ => rfl) h) ?_
      refine pj_X_of (fun r h => pj_T_gr hI rfl rfl rfl h) ?_
      refine pj_X_of (fun r h => pj_R_to (G0, 18, [(2, .int b), (0, .ref 21), (1, .int v)], [.int b, .ref 22, .int v], 0, 0) 18 2 (fun _ => rfl) h) ?_
      refine pj_X_of (fun r h => pj_T_il hI rfl rfl (by omega) (by omega) h) ?_
      show pj_X _ _ G0 19 [(2, .int b), (0, .ref 21), (1, .int v)] [.int (pj_ai G0 22 b.toInt.toNat), .int v] _
      obtain ⟨z3, hz3⟩ : ∃ z : Int32, z = pj_ai G0 22 b.toInt.toNat := ⟨_, rfl⟩
      rw [← hz3]
      have ez3 : (pj_ai G0 22 b.toInt.toNat).toInt = z3.toInt := by rw [hz3]
      have fz3_0 : (-1 : Int) ≤ z3.toInt ∧ z3.toInt ≤ 9 ∧ (z3.toInt ≤ -1 ∨ -1 ≤ z3.toInt) := by rw [hz3]; exact hI.2.2.1 22 (6, -1, 9, -1, -1) rfl _ (by show _ < 6; omega)
      refine pj_X_of (fun r h => pj_R_to (G0, 20, [(2, .int b), (0, .ref 21), (1, .int v)], [.int (Int32.ofInt (-1)), .int z3, .int v], 0, 0) 20 2 (fun _ => rfl) h) ?_
      cases b4 : pj_c1 .ne z3 (Int32.ofInt (-1)) with
      | true =>
        have ub4 := pj_u_neT b4
        refine pj_X_of (fun r h => pj_R_icT 38 rfl rfl b4 h) ?_
        refine pj_X_of (fun r h => pj_R_to (G0, 40, [(2, .int b), (0, .ref 21), (1, .int v)], [.int (v ||| (Int32.ofInt 0))], 0, 0) 40 3 (fun _ => rfl) h) ?_
        obtain ⟨z5, hz5⟩ : ∃ z : Int32, z = v ||| (Int32.ofInt 0) := ⟨_, rfl⟩
        rw [← hz5]
        refine pj_X_of (fun r h => pj_R_to (G0, 44, [(2, .int (b + Int32.ofInt 1)), (1, .int z5), (0, .ref 21)], [], 0, 0) 44 3 (fun _ => rfl) h) ?_
        obtain ⟨z6, hz6⟩ : ∃ z : Int32, z = b + Int32.ofInt 1 := ⟨_, rfl⟩
        rw [← hz6]
        have fz6_0 : z6.toInt = b.toInt + (Int32.ofInt 1).toInt := by rw [hz6]; exact pj_addI (by have := pj_i32 b; have := pj_i32 (Int32.ofInt 1); omega) (by have := pj_i32 b; have := pj_i32 (Int32.ofInt 1); omega)
        refine pj_X_of (fun r h => pj_R_to (G0, 4, [(2, .int z6), (1, .int z5), (0, .ref 21)], [], 0, 0) 4 2 (fun _ => rfl) h) ?_
        exact pj_X_sub [(2, .int z6), (0, .ref 21), (1, .int z5)] (show List.Nodup [2, 0, 1] by decide) ⟨rfl, rfl, rfl, trivial⟩ (ih z6 z5 ⟨by omega, by omega⟩ (pj_i32 _) (by omega))
      | false =>
        have ub4 := pj_u_neF b4
        refine pj_X_of (fun r h => pj_R_icF rfl b4 h) ?_
        refine pj_X_of (fun r h => pj_R_to (G0, 24, [(2, .int b), (0, .ref 21), (1, .int v)], [.ref 21, .int v], 0, 0) 24 2 (fun _ => rfl) h) ?_
        refine pj_X_of (fun r h => pj_T_gr hI rfl rfl rfl h) ?_
        refine pj_X_of (fun r h => pj_R_to (G0, 28, [(2, .int b), (0, .ref 21), (1, .int v)], [.int b, .ref 23, .int v], 0, 0) 28 2 (fun _ => rfl) h) ?_
        refine pj_X_of (fun r h => pj_T_il hI rfl rfl (by omega) (by omega) h) ?_
        show pj_X _ _ G0 29 [(2, .int b), (0, .ref 21), (1, .int v)] [.int (pj_ai G0 23 b.toInt.toNat), .int v] _
        obtain ⟨z7, hz7⟩ : ∃ z : Int32, z = pj_ai G0 23 b.toInt.toNat := ⟨_, rfl⟩
        rw [← hz7]
        have ez7 : (pj_ai G0 23 b.toInt.toNat).toInt = z7.toInt := by rw [hz7]
        cases b8 : pj_c1 .ne z7 0 with
        | true =>
          have ub8 := pj_u0_neT b8
          refine pj_X_of (fun r h => pj_R_ifT 38 rfl rfl b8 h) ?_
          refine pj_X_of (fun r h => pj_R_to (G0, 40, [(2, .int b), (0, .ref 21), (1, .int v)], [.int (v ||| (Int32.ofInt 0))], 0, 0) 40 3 (fun _ => rfl) h) ?_
          obtain ⟨z9, hz9⟩ : ∃ z : Int32, z = v ||| (Int32.ofInt 0) := ⟨_, rfl⟩
          rw [← hz9]
          refine pj_X_of (fun r h => pj_R_to (G0, 44, [(2, .int (b + Int32.ofInt 1)), (1, .int z9), (0, .ref 21)], [], 0, 0) 44 3 (fun _ => rfl) h) ?_
          obtain ⟨z10, hz10⟩ : ∃ z : Int32, z = b + Int32.ofInt 1 := ⟨_, rfl⟩
          rw [← hz10]
          have fz10_0 : z10.toInt = b.toInt + (Int32.ofInt 1).toInt := by rw [hz10]; exact pj_addI (by have := pj_i32 b; have := pj_i32 (Int32.ofInt 1); omega) (by have := pj_i32 b; have := pj_i32 (Int32.ofInt 1); omega)
          refine pj_X_of (fun r h => pj_R_to (G0, 4, [(2, .int z10), (1, .int z9), (0, .ref 21)], [], 0, 0) 4 2 (fun _ => rfl) h) ?_
          exact pj_X_sub [(2, .int z10), (0, .ref 21), (1, .int z9)] (show List.Nodup [2, 0, 1] by decide) ⟨rfl, rfl, rfl, trivial⟩ (ih z10 z9 ⟨by omega, by omega⟩ (pj_i32 _) (by omega))
        | false =>
          have ub8 := pj_u0_neF b8
          refine pj_X_of (fun r h => pj_R_ifF rfl b8 h) ?_
          refine pj_X_of (fun r h => pj_R_to (G0, 35, [(2, .int b), (0, .ref 21), (1, .int v)], [.int ((Int32.ofInt 1) <<< (b &&& 31)), .int v], 0, 0) 35 4 (fun _ => rfl) h) ?_
          obtain ⟨z11, hz11⟩ : ∃ z : Int32, z = (Int32.ofInt 1) <<< (b &&& 31) := ⟨_, rfl⟩
          rw [← hz11]
          have fz11_0 : 1 ≤ z11.toInt ∧ z11.toInt ≤ 32 := by rw [hz11]; exact pj_shlI5 (by omega) (by omega)
          refine pj_X_of (fun r h => pj_R_to (G0, 40, [(2, .int b), (0, .ref 21), (1, .int v)], [.int (v ||| z11)], 0, 0) 40 3 (fun _ => rfl) h) ?_
          obtain ⟨z12, hz12⟩ : ∃ z : Int32, z = v ||| z11 := ⟨_, rfl⟩
          rw [← hz12]
          refine pj_X_of (fun r h => pj_R_to (G0, 44, [(2, .int (b + Int32.ofInt 1)), (1, .int z12), (0, .ref 21)], [], 0, 0) 44 3 (fun _ => rfl) h) ?_
          obtain ⟨z13, hz13⟩ : ∃ z : Int32, z = b + Int32.ofInt 1 := ⟨_, rfl⟩
          rw [← hz13]
          have fz13_0 : z13.toInt = b.toInt + (Int32.ofInt 1).toInt := by rw [hz13]; exact pj_addI (by have := pj_i32 b; have := pj_i32 (Int32.ofInt 1); omega) (by have := pj_i32 b; have := pj_i32 (Int32.ofInt 1); omega)
          refine pj_X_of (fun r h => pj_R_to (G0, 4, [(2, .int z13), (1, .int z12), (0, .ref 21)], [], 0, 0) 4 2 (fun _ => rfl) h) ?_
          exact pj_X_sub [(2, .int z13), (0, .ref 21), (1, .int z12)] (show List.Nodup [2, 0, 1] by decide) ⟨rfl, rfl, rfl, trivial⟩ (ih z13 z12 ⟨by omega, by omega⟩ (pj_i32 _) (by omega))
theorem ct_73_21 (G0 : pj_G) (hI : pj_Inv G0) : pj_Y 1 73 [.ref 21] G0 (fun v G' => ∃ y : Int32, v = some (.int y) ∧ G0 = G' ∧ ((-2147483648 : Int) ≤ y.toInt ∧ y.toInt ≤ 2147483647)) := by
  have c0_ : (Int32.ofInt (-1)).toInt = -1 := by decide
  have c1_ : (Int32.ofInt 0).toInt = 0 := by decide
  have c2_ : (Int32.ofInt 1).toInt = 1 := by decide
  refine pj_Y_X (M := pj_m73) rfl rfl (Nat.le_of_ble_eq_true rfl) ?_
  have hK : pj_kpt ([], [], []) G0 G0 := pj_kpt_r _ _
  show pj_X _ _ G0 0 [(0, .ref 21)] [] _
  refine pj_X_of (fun r h => pj_R_to (G0, 4, [(2, .int (Int32.ofInt 0)), (1, .int (Int32.ofInt 0)), (0, .ref 21)], [], 0, 0) 4 5 (fun _ => rfl) h) ?_
  exact pj_X_sub [(2, .int (Int32.ofInt 0)), (0, .ref 21), (1, .int (Int32.ofInt 0))] (show List.Nodup [2, 0, 1] by decide) ⟨rfl, rfl, rfl, trivial⟩ ((lp_ct_73_21 G0 hI   7) (Int32.ofInt 0) (Int32.ofInt 0) ⟨by omega, by omega⟩ (pj_i32 _) (by omega))
theorem lp_ct_74_21 (G0 : pj_G) (hI : pj_Inv G0) : ∀ mn : Nat, (∀ (b : Int32) (v : Int32), ((0 : Int) ≤ b.toInt ∧ b.toInt ≤ 6) → ((-2147483648 : Int) ≤ v.toInt ∧ v.toInt ≤ 2147483647) → 6 - b.toInt < (mn : Int) → pj_X 0 pj_m74 G0 4 [(2, .int b), (0, .ref 21), (1, .int v)] [] (fun v G' => ∃ y : Int32, v = some (.int y) ∧ G0 = G' ∧ ((-2147483648 : Int) ≤ y.toInt ∧ y.toInt ≤ 2147483647))) := by
  have c0_ : (Int32.ofInt 0).toInt = 0 := by decide
  have c1_ : (Int32.ofInt 1).toInt = 1 := by decide
  have hK : pj_kpt ([], [], []) G0 G0 := pj_kpt_r _ _
  intro mn
  induction mn with
  | zero =>
    intro b v rb rv hm
    exfalso
    omega
  | succ mn ih =>
    intro b v rb rv hm
    refine pj_X_of (fun r h => pj_R_to (G0, 6, [(2, .int b), (0, .ref 21), (1, .int v)], [.ref 21, .int b], 0, 0) 6 3 (fun _ => rfl) h) ?_
    refine pj_X_of (fun r h => pj_T_gi hI rfl rfl h) ?_
    show pj_X _ _ G0 9 [(2, .int b), (0, .ref 21), (1, .int v)] [.int (pj_fi G0 21 0), .int b] _
    obtain ⟨y1, hy1⟩ : ∃ z : Int32, z = pj_fi G0 21 0 := ⟨_, rfl⟩
    rw [← hy1]
    have ey1 : (pj_fi G0 21 0).toInt = y1.toInt := by rw [hy1]
    have ry1 : (0 : Int) ≤ y1.toInt ∧ y1.toInt ≤ 6 := by rw [hy1]; exact hI.2.1 21 0 (0, 6) rfl
    cases b2 : pj_c1 .ge b y1 with
    | true =>
      have ub2 := pj_u_geT b2
      refine pj_X_of (fun r h => pj_R_icT 37 rfl rfl b2 h) ?_
      refine pj_X_of (fun r h => pj_R_to (G0, 38, [(2, .int b), (0, .ref 21), (1, .int v)], [.int v], 0, 0) 38 2 (fun _ => rfl) h) ?_
      exact pj_X_rt rfl rfl ⟨_, rfl, rfl, pj_i32 _⟩
    | false =>
      have ub2 := pj_u_geF b2
      refine pj_X_of (fun r h => pj_R_icF rfl b2 h) ?_
      refine pj_X_of (fun r h => pj_R_to (G0, 14, [(2, .int b), (0, .ref 21), (1, .int v)], [.ref 21, .int v], 0, 0) 14 3 (fun _ => rfl) h) ?_
      refine pj_X_of (fun r h => pj_T_gr hI rfl rfl rfl h) ?_
      refine pj_X_of (fun r h => pj_R_to (G0, 18, [(2, .int b), (0, .ref 21), (1, .int v)], [.int b, .ref 23, .int v], 0, 0) 18 2 (fun _ => rfl) h) ?_
      refine pj_X_of (fun r h => pj_T_il hI rfl rfl (by omega) (by omega) h) ?_
      show pj_X _ _ G0 19 [(2, .int b), (0, .ref 21), (1, .int v)] [.int (pj_ai G0 23 b.toInt.toNat), .int v] _
      obtain ⟨z3, hz3⟩ : ∃ z : Int32, z = pj_ai G0 23 b.toInt.toNat := ⟨_, rfl⟩
      rw [← hz3]
      have ez3 : (pj_ai G0 23 b.toInt.toNat).toInt = z3.toInt := by rw [hz3]
      cases b4 : pj_c1 .le z3 0 with
      | true =>
        have ub4 := pj_u0_leT b4
        refine pj_X_of (fun r h => pj_R_ifT 28 rfl rfl b4 h) ?_
        refine pj_X_of (fun r h => pj_R_to (G0, 30, [(2, .int b), (0, .ref 21), (1, .int v)], [.int (v ||| (Int32.ofInt 0))], 0, 0) 30 3 (fun _ => rfl) h) ?_
        obtain ⟨z5, hz5⟩ : ∃ z : Int32, z = v ||| (Int32.ofInt 0) := ⟨_, rfl⟩
        rw [← hz5]
        refine pj_X_of (fun r h => pj_R_to (G0, 34, [(2, .int (b + Int32.ofInt 1)), (1, .int z5), (0, .ref 21)], [], 0, 0) 34 3 (fun _ => rfl) h) ?_
        obtain ⟨z6, hz6⟩ : ∃ z : Int32, z = b + Int32.ofInt 1 := ⟨_, rfl⟩
        rw [← hz6]
        have fz6_0 : z6.toInt = b.toInt + (Int32.ofInt 1).toInt := by rw [hz6]; exact pj_addI (by have := pj_i32 b; have := pj_i32 (Int32.ofInt 1); omega) (by have := pj_i32 b; have := pj_i32 (Int32.ofInt 1); omega)
        refine pj_X_of (fun r h => pj_R_to (G0, 4, [(2, .int z6), (1, .int z5), (0, .ref 21)], [], 0, 0) 4 2 (fun _ => rfl) h) ?_
        exact pj_X_sub [(2, .int z6), (0, .ref 21), (1, .int z5)] (show List.Nodup [2, 0, 1] by decide) ⟨rfl, rfl, rfl, trivial⟩ (ih z6 z5 ⟨by omega, by omega⟩ (pj_i32 _) (by omega))
      | false =>
        have ub4 := pj_u0_leF b4
        refine pj_X_of (fun r h => pj_R_ifF rfl b4 h) ?_
        refine pj_X_of (fun r h => pj_R_to (G0, 25, [(2, .int b), (0, .ref 21), (1, .int v)], [.int ((Int32.ofInt 1) <<< (b &&& 31)), .int v], 0, 0) 25 4 (fun _ => rfl) h) ?_
        obtain ⟨z7, hz7⟩ : ∃ z : Int32, z = (Int32.ofInt 1) <<< (b &&& 31) := ⟨_, rfl⟩
        rw [← hz7]
        have fz7_0 : 1 ≤ z7.toInt ∧ z7.toInt ≤ 32 := by rw [hz7]; exact pj_shlI5 (by omega) (by omega)
        refine pj_X_of (fun r h => pj_R_to (G0, 30, [(2, .int b), (0, .ref 21), (1, .int v)], [.int (v ||| z7)], 0, 0) 30 3 (fun _ => rfl) h) ?_
        obtain ⟨z8, hz8⟩ : ∃ z : Int32, z = v ||| z7 := ⟨_, rfl⟩
        rw [← hz8]
        refine pj_X_of (fun r h => pj_R_to (G0, 34, [(2, .int (b + Int32.ofInt 1)), (1, .int z8), (0, .ref 21)], [], 0, 0) 34 3 (fun _ => rfl) h) ?_
        obtain ⟨z9, hz9⟩ : ∃ z : Int32, z = b + Int32.ofInt 1 := ⟨_, rfl⟩
        rw [← hz9]
        have fz9_0 : z9.toInt = b.toInt + (Int32.ofInt 1).toInt := by rw [hz9]; exact pj_addI (by have := pj_i32 b; have := pj_i32 (Int32.ofInt 1); omega) (by have := pj_i32 b; have := pj_i32 (Int32.ofInt 1); omega)
        refine pj_X_of (fun r h => pj_R_to (G0, 4, [(2, .int z9), (1, .int z8), (0, .ref 21)], [], 0, 0) 4 2 (fun _ => rfl) h) ?_
        exact pj_X_sub [(2, .int z9), (0, .ref 21), (1, .int z8)] (show List.Nodup [2, 0, 1] by decide) ⟨rfl, rfl, rfl, trivial⟩ (ih z9 z8 ⟨by omega, by omega⟩ (pj_i32 _) (by omega))
theorem ct_74_21 (G0 : pj_G) (hI : pj_Inv G0) : pj_Y 1 74 [.ref 21] G0 (fun v G' => ∃ y : Int32, v = some (.int y) ∧ G0 = G' ∧ ((-2147483648 : Int) ≤ y.toInt ∧ y.toInt ≤ 2147483647)) := by
  have c0_ : (Int32.ofInt 0).toInt = 0 := by decide
  have c1_ : (Int32.ofInt 1).toInt = 1 := by decide
  refine pj_Y_X (M := pj_m74) rfl rfl (Nat.le_of_ble_eq_true rfl) ?_
  have hK : pj_kpt ([], [], []) G0 G0 := pj_kpt_r _ _
  show pj_X _ _ G0 0 [(0, .ref 21)] [] _
  refine pj_X_of (fun r h => pj_R_to (G0, 4, [(2, .int (Int32.ofInt 0)), (1, .int (Int32.ofInt 0)), (0, .ref 21)], [], 0, 0) 4 5 (fun _ => rfl) h) ?_
  exact pj_X_sub [(2, .int (Int32.ofInt 0)), (0, .ref 21), (1, .int (Int32.ofInt 0))] (show List.Nodup [2, 0, 1] by decide) ⟨rfl, rfl, rfl, trivial⟩ ((lp_ct_74_21 G0 hI   7) (Int32.ofInt 0) (Int32.ofInt 0) ⟨by omega, by omega⟩ (pj_i32 _) (by omega))
theorem lp_ct_75_21 (G0 : pj_G) (hI : pj_Inv G0) : ∀ mn : Nat, (∀ (b : Int32) (v : Int32), ((0 : Int) ≤ b.toInt ∧ b.toInt ≤ 6) → ((-2147483648 : Int) ≤ v.toInt ∧ v.toInt ≤ 2147483647) → 6 - b.toInt < (mn : Int) → pj_X 0 pj_m75 G0 4 [(2, .int b), (0, .ref 21), (1, .int v)] [] (fun v G' => ∃ y : Int32, v = some (.int y) ∧ G0 = G' ∧ ((-2147483648 : Int) ≤ y.toInt ∧ y.toInt ≤ 2147483647))) := by
  have c0_ : (Int32.ofInt (-1)).toInt = -1 := by decide
  have c1_ : (Int32.ofInt 0).toInt = 0 := by decide
  have c2_ : (Int32.ofInt 1).toInt = 1 := by decide
  have hK : pj_kpt ([], [], []) G0 G0 := pj_kpt_r _ _
  intro mn
  induction mn with
  | zero =>
    intro b v rb rv hm
    exfalso
    omega
  | succ mn ih =>
    intro b v rb rv hm
    refine pj_X_of (fun r h => pj_R_to (G0, 6, [(2, .int b), (0, .ref 21), (1, .int v)], [.ref 21, .int b], 0, 0) 6 3 (fun _ => rfl) h) ?_
    refine pj_X_of (fun r h => pj_T_gi hI rfl rfl h) ?_
    show pj_X _ _ G0 9 [(2, .int b), (0, .ref 21), (1, .int v)] [.int (pj_fi G0 21 0), .int b] _
    obtain ⟨y1, hy1⟩ : ∃ z : Int32, z = pj_fi G0 21 0 := ⟨_, rfl⟩
    rw [← hy1]
    have ey1 : (pj_fi G0 21 0).toInt = y1.toInt := by rw [hy1]
    have ry1 : (0 : Int) ≤ y1.toInt ∧ y1.toInt ≤ 6 := by rw [hy1]; exact hI.2.1 21 0 (0, 6) rfl
    cases b2 : pj_c1 .ge b y1 with
    | true =>
      have ub2 := pj_u_geT b2
      refine pj_X_of (fun r h => pj_R_icT 38 rfl rfl b2 h) ?_
      refine pj_X_of (fun r h => pj_R_to (G0, 39, [(2, .int b), (0, .ref 21), (1, .int v)], [.int v], 0, 0) 39 2 (fun _ => rfl) h) ?_
      exact pj_X_rt rfl rfl ⟨_, rfl, rfl, pj_i32 _⟩
    | false =>
      have ub2 := pj_u_geF b2
      refine pj_X_of (fun r h => pj_R_icF rfl b2 h) ?_
      refine pj_X_of (fun r h => pj_R_to (G0, 14, [(2, .int b), (0, .ref 21), (1, .int v)], [.ref 21, .int v], 0, 0) 14 3 (fun _ => rfl) h) ?_
      refine pj_X_of (fun r h => pj_T_gr hI rfl rfl rfl h) ?_
      refine pj_X_of (fun r h => pj_R_to (G0, 18, [(2, .int b), (0, .ref 21), (1, .int v)], [.int b, .ref 25, .int v], 0, 0) 18 2 (fun _ => rfl) h) ?_
      refine pj_X_of (fun r h => pj_T_il hI rfl rfl (by omega) (by omega) h) ?_
      show pj_X _ _ G0 19 [(2, .int b), (0, .ref 21), (1, .int v)] [.int (pj_ai G0 25 b.toInt.toNat), .int v] _
      obtain ⟨z3, hz3⟩ : ∃ z : Int32, z = pj_ai G0 25 b.toInt.toNat := ⟨_, rfl⟩
      rw [← hz3]
      have ez3 : (pj_ai G0 25 b.toInt.toNat).toInt = z3.toInt := by rw [hz3]
      refine pj_X_of (fun r h => pj_R_to (G0, 20, [(2, .int b), (0, .ref 21), (1, .int v)], [.int (Int32.ofInt (-1)), .int z3, .int v], 0, 0) 20 2 (fun _ => rfl) h) ?_
      cases b4 : pj_c1 .eq z3 (Int32.ofInt (-1)) with
      | true =>
        have ub4 := pj_u_eqT b4
        refine pj_X_of (fun r h => pj_R_icT 29 rfl rfl b4 h) ?_
        refine pj_X_of (fun r h => pj_R_to (G0, 31, [(2, .int b), (0, .ref 21), (1, .int v)], [.int (v ||| (Int32.ofInt 0))], 0, 0) 31 3 (fun _ => rfl) h) ?_
        obtain ⟨z5, hz5⟩ : ∃ z : Int32, z = v ||| (Int32.ofInt 0) := ⟨_, rfl⟩
        rw [← hz5]
        refine pj_X_of (fun r h => pj_R_to (G0, 35, [(2, .int (b + Int32.ofInt 1)), (1, .int z5), (0, .ref 21)], [], 0, 0) 35 3 (fun _ => rfl) h) ?_
        obtain ⟨z6, hz6⟩ : ∃ z : Int32, z = b + Int32.ofInt 1 := ⟨_, rfl⟩
        rw [← hz6]
        have fz6_0 : z6.toInt = b.toInt + (Int32.ofInt 1).toInt := by rw [hz6]; exact pj_addI (by have := pj_i32 b; have := pj_i32 (Int32.ofInt 1); omega) (by have := pj_i32 b; have := pj_i32 (Int32.ofInt 1); omega)
        refine pj_X_of (fun r h => pj_R_to (G0, 4, [(2, .int z6), (1, .int z5), (0, .ref 21)], [], 0, 0) 4 2 (fun _ => rfl) h) ?_
        exact pj_X_sub [(2, .int z6), (0, .ref 21), (1, .int z5)] (show List.Nodup [2, 0, 1] by decide) ⟨rfl, rfl, rfl, trivial⟩ (ih z6 z5 ⟨by omega, by omega⟩ (pj_i32 _) (by omega))
      | false =>
        have ub4 := pj_u_eqF b4
        refine pj_X_of (fun r h => pj_R_icF rfl b4 h) ?_
        refine pj_X_of (fun r h => pj_R_to (G0, 26, [(2, .int b), (0, .ref 21), (1, .int v)], [.int ((Int32.ofInt 1) <<< (b &&& 31)), .int v], 0, 0) 26 4 (fun _ => rfl) h) ?_
        obtain ⟨z7, hz7⟩ : ∃ z : Int32, z = (Int32.ofInt 1) <<< (b &&& 31) := ⟨_, rfl⟩
        rw [← hz7]
        have fz7_0 : 1 ≤ z7.toInt ∧ z7.toInt ≤ 32 := by rw [hz7]; exact pj_shlI5 (by omega) (by omega)
        refine pj_X_of (fun r h => pj_R_to (G0, 31, [(2, .int b), (0, .ref 21), (1, .int v)], [.int (v ||| z7)], 0, 0) 31 3 (fun _ => rfl) h) ?_
        obtain ⟨z8, hz8⟩ : ∃ z : Int32, z = v ||| z7 := ⟨_, rfl⟩
        rw [← hz8]
        refine pj_X_of (fun r h => pj_R_to (G0, 35, [(2, .int (b + Int32.ofInt 1)), (1, .int z8), (0, .ref 21)], [], 0, 0) 35 3 (fun _ => rfl) h) ?_
        obtain ⟨z9, hz9⟩ : ∃ z : Int32, z = b + Int32.ofInt 1 := ⟨_, rfl⟩
        rw [← hz9]
        have fz9_0 : z9.toInt = b.toInt + (Int32.ofInt 1).toInt := by rw [hz9]; exact pj_addI (by have := pj_i32 b; have := pj_i32 (Int32.ofInt 1); omega) (by have := pj_i32 b; have := pj_i32 (Int32.ofInt 1); omega)
        refine pj_X_of (fun r h => pj_R_to (G0, 4, [(2, .int z9), (1, .int z8), (0, .ref 21)], [], 0, 0) 4 2 (fun _ => rfl) h) ?_
        exact pj_X_sub [(2, .int z9), (0, .ref 21), (1, .int z8)] (show List.Nodup [2, 0, 1] by decide) ⟨rfl, rfl, rfl, trivial⟩ (ih z9 z8 ⟨by omega, by omega⟩ (pj_i32 _) (by omega))
theorem ct_75_21 (G0 : pj_G) (hI : pj_Inv G0) : pj_Y 1 75 [.ref 21] G0 (fun v G' => ∃ y : Int32, v = some (.int y) ∧ G0 = G' ∧ ((-2147483648 : Int) ≤ y.toInt ∧ y.toInt ≤ 2147483647)) := by
  have c0_ : (Int32.ofInt (-1)).toInt = -1 := by decide
  have c1_ : (Int32.ofInt 0).toInt = 0 := by decide
  have c2_ : (Int32.ofInt 1).toInt = 1 := by decide
  refine pj_Y_X (M := pj_m75) rfl rfl (Nat.le_of_ble_eq_true rfl) ?_
  have hK : pj_kpt ([], [], []) G0 G0 := pj_kpt_r _ _
  show pj_X _ _ G0 0 [(0, .ref 21)] [] _
  refine pj_X_of (fun r h => pj_R_to (G0, 4, [(2, .int (Int32.ofInt 0)), (1, .int (Int32.ofInt 0)), (0, .ref 21)], [], 0, 0) 4 5 (fun _ => rfl) h) ?_
  exact pj_X_sub [(2, .int (Int32.ofInt 0)), (0, .ref 21), (1, .int (Int32.ofInt 0))] (show List.Nodup [2, 0, 1] by decide) ⟨rfl, rfl, rfl, trivial⟩ ((lp_ct_75_21 G0 hI   7) (Int32.ofInt 0) (Int32.ofInt 0) ⟨by omega, by omega⟩ (pj_i32 _) (by omega))
noncomputable def F_69_39x (G0 : pj_G) (b : Int32) : Int32 := pj_nm (pj_ai G0 40 b.toInt.toNat) (fun z1 => cond (pj_c1 .eq z1 (Int32.ofInt (-1))) (Int32.ofInt 0) (pj_nm (pj_ai G0 41 b.toInt.toNat) (fun z3 => cond (pj_c1 .ne z3 0) (Int32.ofInt 0) (Int32.ofInt 1))))
theorem F_69_39x_e (G0 : pj_G) (b : Int32) : F_69_39x G0 b = pj_nm (pj_ai G0 40 b.toInt.toNat) (fun z1 => cond (pj_c1 .eq z1 (Int32.ofInt (-1))) (Int32.ofInt 0) (pj_nm (pj_ai G0 41 b.toInt.toNat) (fun z3 => cond (pj_c1 .ne z3 0) (Int32.ofInt 0) (Int32.ofInt 1)))) := rfl
theorem ct_69_39x (G0 : pj_G) (hI : pj_Inv G0) (b : Int32) (rb : (0 : Int) ≤ b.toInt ∧ b.toInt ≤ 5) : pj_Y 1 69 [.ref 39, .int b] G0 (fun v' G' => ∃ y : Int32, v' = some (.int y) ∧ G0 = G' ∧ ((0 : Int) ≤ y.toInt ∧ y.toInt ≤ 1) ∧ (∀ H, G0 = H → (1 ≤ y.toInt → 0 ≤ (pj_ai H 40 b.toInt.toNat).toInt)) ∧ (y = F_69_39x G0 b)) := by
  have c0_ : (Int32.ofInt (-1)).toInt = -1 := by decide
  have c1_ : (Int32.ofInt 0).toInt = 0 := by decide
  have c2_ : (Int32.ofInt 1).toInt = 1 := by decide
  refine pj_Y_X (M := pj_m69) rfl rfl (Nat.le_of_ble_eq_true rfl) ?_
  have hK : pj_kpt ([], [], []) G0 G0 := pj_kpt_r _ _
  show pj_X _ _ G0 0 [(0, .ref 39), (1, .int b)] [] _
  rw [F_69_39x_e]
  refine pj_X_of (fun r h => pj_R_to (G0, 1, [(0, .ref 39), (1, .int b)], [.ref 39], 0, 0) 1 2 (fun _ => rfl) h) ?_
  refine pj_X_of (fun r h => pj_T_gr hI rfl rfl rfl h) ?_
  refine pj_X_of (fun r h => pj_R_to (G0, 5, [(0, .ref 39), (1, .int b)], [.int b, .ref 40], 0, 0) 5 2 (fun _ => rfl) h) ?_
  refine pj_X_of (fun r h => pj_T_il hI rfl rfl (by omega) (by omega) h) ?_
  show pj_X _ _ G0 6 [(0, .ref 39), (1, .int b)] [.int (pj_ai G0 40 b.toInt.toNat)] _
  obtain ⟨z1, hz1⟩ : ∃ z : Int32, z = pj_ai G0 40 b.toInt.toNat := ⟨_, rfl⟩
  rw [← hz1]
  rw [pj_nm_e]
  have ez1 : (pj_ai G0 40 b.toInt.toNat).toInt = z1.toInt := by rw [hz1]
  have fz1_0 : (-1 : Int) ≤ z1.toInt ∧ z1.toInt ≤ 9 ∧ (z1.toInt ≤ -1 ∨ -1 ≤ z1.toInt) := by rw [hz1]; exact hI.2.2.1 40 (6, -1, 9, -1, -1) rfl _ (by show _ < 6; omega)
  refine pj_X_of (fun r h => pj_R_to (G0, 7, [(0, .ref 39), (1, .int b)], [.int (Int32.ofInt (-1)), .int z1], 0, 0) 7 2 (fun _ => rfl) h) ?_
  cases b2 : pj_c1 .eq z1 (Int32.ofInt (-1)) with
  | true =>
    rw [pj_cT]
    have ub2 := pj_u_eqT b2
    refine pj_X_of (fun r h => pj_R_icT 23 rfl rfl b2 h) ?_
    refine pj_X_of (fun r h => pj_R_to (G0, 24, [(0, .ref 39), (1, .int b)], [.int (Int32.ofInt 0)], 0, 0) 24 2 (fun _ => rfl) h) ?_
    exact pj_X_rt rfl rfl ⟨_, rfl, rfl, ⟨by omega, by omega⟩, (fun H hH => by subst hH; exact (by omega)), rfl⟩
  | false =>
    rw [pj_cF]
    have ub2 := pj_u_eqF b2
    refine pj_X_of (fun r h => pj_R_icF rfl b2 h) ?_
    refine pj_X_of (fun r h => pj_R_to (G0, 11, [(0, .ref 39), (1, .int b)], [.ref 39], 0, 0) 11 2 (fun _ => rfl) h) ?_
    refine pj_X_of (fun r h => pj_T_gr hI rfl rfl rfl h) ?_
    refine pj_X_of (fun r h => pj_R_to (G0, 15, [(0, .ref 39), (1, .int b)], [.int b, .ref 41], 0, 0) 15 2 (fun _ => rfl) h) ?_
    refine pj_X_of (fun r h => pj_T_il hI rfl rfl (by omega) (by omega) h) ?_
    show pj_X _ _ G0 16 [(0, .ref 39), (1, .int b)] [.int (pj_ai G0 41 b.toInt.toNat)] _
    obtain ⟨z3, hz3⟩ : ∃ z : Int32, z = pj_ai G0 41 b.toInt.toNat := ⟨_, rfl⟩
    rw [← hz3]
    rw [pj_nm_e]
    have ez3 : (pj_ai G0 41 b.toInt.toNat).toInt = z3.toInt := by rw [hz3]
    cases b4 : pj_c1 .ne z3 0 with
    | true =>
      rw [pj_cT]
      have ub4 := pj_u0_neT b4
      refine pj_X_of (fun r h => pj_R_ifT 23 rfl rfl b4 h) ?_
      refine pj_X_of (fun r h => pj_R_to (G0, 24, [(0, .ref 39), (1, .int b)], [.int (Int32.ofInt 0)], 0, 0) 24 2 (fun _ => rfl) h) ?_
      exact pj_X_rt rfl rfl ⟨_, rfl, rfl, ⟨by omega, by omega⟩, (fun H hH => by subst hH; exact (by omega)), rfl⟩
    | false =>
      rw [pj_cF]
      have ub4 := pj_u0_neF b4
      refine pj_X_of (fun r h => pj_R_ifF rfl b4 h) ?_
      refine pj_X_of (fun r h => pj_R_to (G0, 24, [(0, .ref 39), (1, .int b)], [.int (Int32.ofInt 1)], 0, 0) 24 3 (fun _ => rfl) h) ?_
      exact pj_X_rt rfl rfl ⟨_, rfl, rfl, ⟨by omega, by omega⟩, (fun H hH => by subst hH; exact (by omega)), rfl⟩
theorem fr_69_39x (G0 : pj_G) (hI : pj_Inv G0) (b : Int32) (rb : (0 : Int) ≤ b.toInt ∧ b.toInt ≤ 5) : ((0 : Int) ≤ (F_69_39x G0 b).toInt ∧ (F_69_39x G0 b).toInt ≤ 1) ∧ (1 ≤ (F_69_39x G0 b).toInt → 0 ≤ (pj_ai G0 40 b.toInt.toNat).toInt) := by
  obtain ⟨v, G', -, y, -, rfl, r, x, e⟩ := ct_69_39x G0 hI b rb
  rw [← e]
  exact ⟨r, x _ rfl⟩
noncomputable def L_70_39x (G0 : pj_G) (c : Int32) (fu : Nat) : Int32 → Int32 := Nat.rec (motive := fun _ => Int32 → Int32) (fun _ => 0) (fun _ ih b => pj_nm (pj_fi G0 39 0) (fun y1 => cond (pj_c1 .ge b y1) (Int32.ofInt (-1)) (pj_nm (pj_ai G0 40 b.toInt.toNat) (fun z3 => cond (pj_c1 .ne z3 c) (pj_nm (b + Int32.ofInt 1) (fun z5 => ih z5)) (pj_nm (pj_ai G0 41 b.toInt.toNat) (fun z6 => cond (pj_c1 .ne z6 0) (pj_nm (b + Int32.ofInt 1) (fun z8 => ih z8)) (b))))))) fu
theorem L_70_39x_s0 (G0 : pj_G) (c : Int32) (fu : Nat) (b : Int32) : L_70_39x G0 c (fu + 1) b = pj_nm (pj_fi G0 39 0) (fun y1 => cond (pj_c1 .ge b y1) (Int32.ofInt (-1)) (pj_nm (pj_ai G0 40 b.toInt.toNat) (fun z3 => cond (pj_c1 .ne z3 c) (pj_nm (b + Int32.ofInt 1) (fun z5 => L_70_39x G0 c fu z5)) (pj_nm (pj_ai G0 41 b.toInt.toNat) (fun z6 => cond (pj_c1 .ne z6 0) (pj_nm (b + Int32.ofInt 1) (fun z8 => L_70_39x G0 c fu z8)) (b)))))) := rfl
noncomputable def F_70_39x (G0 : pj_G) (c : Int32) : Int32 := L_70_39x G0 c 7 (Int32.ofInt 0)
theorem F_70_39x_e (G0 : pj_G) (c : Int32) : F_70_39x G0 c = L_70_39x G0 c 7 (Int32.ofInt 0) := rfl
theorem lp_ct_70_39x (G0 : pj_G) (hI : pj_Inv G0) (c : Int32) : ∀ mn : Nat, (∀ (b : Int32), ((0 : Int) ≤ b.toInt ∧ b.toInt ≤ 6) → 6 - b.toInt < (mn : Int) → pj_X 0 pj_m70 G0 2 [(2, .int b), (0, .ref 39), (1, .int c)] [] (fun v' G' => ∃ y : Int32, v' = some (.int y) ∧ G0 = G' ∧ ((-1 : Int) ≤ y.toInt ∧ y.toInt ≤ 5) ∧ (y = L_70_39x G0 c mn b))) := by
  have c0_ : (Int32.ofInt (-1)).toInt = -1 := by decide
  have c1_ : (Int32.ofInt 0).toInt = 0 := by decide
  have c2_ : (Int32.ofInt 1).toInt = 1 := by decide
  have hK : pj_kpt ([], [], []) G0 G0 := pj_kpt_r _ _
  intro mn
  induction mn with
  | zero =>
    intro b rb hm
    exfalso
    omega
  | succ mn ih =>
    intro b rb hm
    rw [L_70_39x_s0]
    refine pj_X_of (fun r h => pj_R_to (G0, 4, [(2, .int b), (0, .ref 39), (1, .int c)], [.ref 39, .int b], 0, 0) 4 3 (fun _ => rfl) h) ?_
    refine pj_X_of (fun r h => pj_T_gi hI rfl rfl h) ?_
    show pj_X _ _ G0 7 [(2, .int b), (0, .ref 39), (1, .int c)] [.int (pj_fi G0 39 0), .int b] _
    obtain ⟨y1, hy1⟩ : ∃ z : Int32, z = pj_fi G0 39 0 := ⟨_, rfl⟩
    rw [← hy1]
    rw [pj_nm_e]
    have ey1 : (pj_fi G0 39 0).toInt = y1.toInt := by rw [hy1]
    have ry1 : (0 : Int) ≤ y1.toInt ∧ y1.toInt ≤ 6 := by rw [hy1]; exact hI.2.1 39 0 (0, 6) rfl
    cases b2 : pj_c1 .ge b y1 with
    | true =>
      rw [pj_cT]
      have ub2 := pj_u_geT b2
      refine pj_X_of (fun r h => pj_R_icT 37 rfl rfl b2 h) ?_
      refine pj_X_of (fun r h => pj_R_to (G0, 38, [(2, .int b), (0, .ref 39), (1, .int c)], [.int (Int32.ofInt (-1))], 0, 0) 38 2 (fun _ => rfl) h) ?_
      exact pj_X_rt rfl rfl ⟨_, rfl, rfl, ⟨by omega, by omega⟩, rfl⟩
    | false =>
      rw [pj_cF]
      have ub2 := pj_u_geF b2
      refine pj_X_of (fun r h => pj_R_icF rfl b2 h) ?_
      refine pj_X_of (fun r h => pj_R_to (G0, 11, [(2, .int b), (0, .ref 39), (1, .int c)], [.ref 39], 0, 0) 11 2 (fun _ => rfl) h) ?_
      refine pj_X_of (fun r h => pj_T_gr hI rfl rfl rfl h) ?_
      refine pj_X_of (fun r h => pj_R_to (G0, 15, [(2, .int b), (0, .ref 39), (1, .int c)], [.int b, .ref 40], 0, 0) 15 2 (fun _ => rfl) h) ?_
      refine pj_X_of (fun r h => pj_T_il hI rfl rfl (by omega) (by omega) h) ?_
      show pj_X _ _ G0 16 [(2, .int b), (0, .ref 39), (1, .int c)] [.int (pj_ai G0 40 b.toInt.toNat)] _
      obtain ⟨z3, hz3⟩ : ∃ z : Int32, z = pj_ai G0 40 b.toInt.toNat := ⟨_, rfl⟩
      rw [← hz3]
      rw [pj_nm_e]
      have ez3 : (pj_ai G0 40 b.toInt.toNat).toInt = z3.toInt := by rw [hz3]
      have fz3_0 : (-1 : Int) ≤ z3.toInt ∧ z3.toInt ≤ 9 ∧ (z3.toInt ≤ -1 ∨ -1 ≤ z3.toInt) := by rw [hz3]; exact hI.2.2.1 40 (6, -1, 9, -1, -1) rfl _ (by show _ < 6; omega)
      refine pj_X_of (fun r h => pj_R_to (G0, 17, [(2, .int b), (0, .ref 39), (1, .int c)], [.int c, .int z3], 0, 0) 17 2 (fun _ => rfl) h) ?_
      cases b4 : pj_c1 .ne z3 c with
      | true =>
        rw [pj_cT]
        have ub4 := pj_u_neT b4
        refine pj_X_of (fun r h => pj_R_icT 31 rfl rfl b4 h) ?_
        refine pj_X_of (fun r h => pj_R_to (G0, 34, [(2, .int (b + Int32.ofInt 1)), (0, .ref 39), (1, .int c)], [], 0, 0) 34 2 (fun _ => rfl) h) ?_
        obtain ⟨z5, hz5⟩ : ∃ z : Int32, z = b + Int32.ofInt 1 := ⟨_, rfl⟩
        rw [← hz5]
        rw [pj_nm_e]
        have fz5_0 : z5.toInt = b.toInt + (Int32.ofInt 1).toInt := by rw [hz5]; exact pj_addI (by have := pj_i32 b; have := pj_i32 (Int32.ofInt 1); omega) (by have := pj_i32 b; have := pj_i32 (Int32.ofInt 1); omega)
        refine pj_X_of (fun r h => pj_R_to (G0, 2, [(2, .int z5), (0, .ref 39), (1, .int c)], [], 0, 0) 2 2 (fun _ => rfl) h) ?_
        exact pj_X_sub [(2, .int z5), (0, .ref 39), (1, .int c)] (show List.Nodup [2, 0, 1] by decide) ⟨rfl, rfl, rfl, trivial⟩ (ih z5 ⟨by omega, by omega⟩ (by omega))
      | false =>
        rw [pj_cF]
        have ub4 := pj_u_neF b4
        refine pj_X_of (fun r h => pj_R_icF rfl b4 h) ?_
        refine pj_X_of (fun r h => pj_R_to (G0, 21, [(2, .int b), (0, .ref 39), (1, .int c)], [.ref 39], 0, 0) 21 2 (fun _ => rfl) h) ?_
        refine pj_X_of (fun r h => pj_T_gr hI rfl rfl rfl h) ?_
        refine pj_X_of (fun r h => pj_R_to (G0, 25, [(2, .int b), (0, .ref 39), (1, .int c)], [.int b, .ref 41], 0, 0) 25 2 (fun _ => rfl) h) ?_
        refine pj_X_of (fun r h => pj_T_il hI rfl rfl (by omega) (by omega) h) ?_
        show pj_X _ _ G0 26 [(2, .int b), (0, .ref 39), (1, .int c)] [.int (pj_ai G0 41 b.toInt.toNat)] _
        obtain ⟨z6, hz6⟩ : ∃ z : Int32, z = pj_ai G0 41 b.toInt.toNat := ⟨_, rfl⟩
        rw [← hz6]
        rw [pj_nm_e]
        have ez6 : (pj_ai G0 41 b.toInt.toNat).toInt = z6.toInt := by rw [hz6]
        cases b7 : pj_c1 .ne z6 0 with
        | true =>
          rw [pj_cT]
          have ub7 := pj_u0_neT b7
          refine pj_X_of (fun r h => pj_R_ifT 31 rfl rfl b7 h) ?_
          refine pj_X_of (fun r h => pj_R_to (G0, 34, [(2, .int (b + Int32.ofInt 1)), (0, .ref 39), (1, .int c)], [], 0, 0) 34 2 (fun _ => rfl) h) ?_
          obtain ⟨z8, hz8⟩ : ∃ z : Int32, z = b + Int32.ofInt 1 := ⟨_, rfl⟩
          rw [← hz8]
          rw [pj_nm_e]
          have fz8_0 : z8.toInt = b.toInt + (Int32.ofInt 1).toInt := by rw [hz8]; exact pj_addI (by have := pj_i32 b; have := pj_i32 (Int32.ofInt 1); omega) (by have := pj_i32 b; have := pj_i32 (Int32.ofInt 1); omega)
          refine pj_X_of (fun r h => pj_R_to (G0, 2, [(2, .int z8), (0, .ref 39), (1, .int c)], [], 0, 0) 2 2 (fun _ => rfl) h) ?_
          exact pj_X_sub [(2, .int z8), (0, .ref 39), (1, .int c)] (show List.Nodup [2, 0, 1] by decide) ⟨rfl, rfl, rfl, trivial⟩ (ih z8 ⟨by omega, by omega⟩ (by omega))
        | false =>
          rw [pj_cF]
          have ub7 := pj_u0_neF b7
          refine pj_X_of (fun r h => pj_R_ifF rfl b7 h) ?_
          refine pj_X_of (fun r h => pj_R_to (G0, 30, [(2, .int b), (0, .ref 39), (1, .int c)], [.int b], 0, 0) 30 2 (fun _ => rfl) h) ?_
          exact pj_X_rt rfl rfl ⟨_, rfl, rfl, ⟨by omega, by omega⟩, rfl⟩
theorem ct_70_39x (G0 : pj_G) (hI : pj_Inv G0) (c : Int32) : pj_Y 1 70 [.ref 39, .int c] G0 (fun v' G' => ∃ y : Int32, v' = some (.int y) ∧ G0 = G' ∧ ((-1 : Int) ≤ y.toInt ∧ y.toInt ≤ 5) ∧ (y = F_70_39x G0 c)) := by
  have c0_ : (Int32.ofInt (-1)).toInt = -1 := by decide
  have c1_ : (Int32.ofInt 0).toInt = 0 := by decide
  have c2_ : (Int32.ofInt 1).toInt = 1 := by decide
  refine pj_Y_X (M := pj_m70) rfl rfl (Nat.le_of_ble_eq_true rfl) ?_
  have hK : pj_kpt ([], [], []) G0 G0 := pj_kpt_r _ _
  show pj_X _ _ G0 0 [(0, .ref 39), (1, .int c)] [] _
  rw [F_70_39x_e]
  refine pj_X_of (fun r h => pj_R_to (G0, 2, [(2, .int (Int32.ofInt 0)), (0, .ref 39), (1, .int c)], [], 0, 0) 2 3 (fun _ => rfl) h) ?_
  exact pj_X_sub [(2, .int (Int32.ofInt 0)), (0, .ref 39), (1, .int c)] (show List.Nodup [2, 0, 1] by decide) ⟨rfl, rfl, rfl, trivial⟩ ((lp_ct_70_39x G0 hI c  7) (Int32.ofInt 0) ⟨by omega, by omega⟩ (by omega))
theorem fr_70_39x (G0 : pj_G) (hI : pj_Inv G0) (c : Int32) : ((-1 : Int) ≤ (F_70_39x G0 c).toInt ∧ (F_70_39x G0 c).toInt ≤ 5) := by
  obtain ⟨v, G', -, y, -, rfl, r, e⟩ := ct_70_39x G0 hI c
  rw [← e]
  exact r
noncomputable def L_71_39x (G0 : pj_G) (c : Int32) (fu : Nat) : Int32 → Int32 := Nat.rec (motive := fun _ => Int32 → Int32) (fun _ => 0) (fun _ ih b => pj_nm (pj_fi G0 39 0) (fun y1 => cond (pj_c1 .ge b y1) (Int32.ofInt (-1)) (pj_nm (pj_ai G0 40 b.toInt.toNat) (fun z3 => cond (pj_c1 .ne z3 c) (pj_nm (b + Int32.ofInt 1) (fun z5 => ih z5)) (pj_nm (pj_ai G0 41 b.toInt.toNat) (fun z6 => cond (pj_c1 .le z6 0) (pj_nm (b + Int32.ofInt 1) (fun z8 => ih z8)) (b))))))) fu
theorem L_71_39x_s0 (G0 : pj_G) (c : Int32) (fu : Nat) (b : Int32) : L_71_39x G0 c (fu + 1) b = pj_nm (pj_fi G0 39 0) (fun y1 => cond (pj_c1 .ge b y1) (Int32.ofInt (-1)) (pj_nm (pj_ai G0 40 b.toInt.toNat) (fun z3 => cond (pj_c1 .ne z3 c) (pj_nm (b + Int32.ofInt 1) (fun z5 => L_71_39x G0 c fu z5)) (pj_nm (pj_ai G0 41 b.toInt.toNat) (fun z6 => cond (pj_c1 .le z6 0) (pj_nm (b + Int32.ofInt 1) (fun z8 => L_71_39x G0 c fu z8)) (b)))))) := rfl
noncomputable def F_71_39x (G0 : pj_G) (c : Int32) : Int32 := L_71_39x G0 c 7 (Int32.ofInt 0)
theorem F_71_39x_e (G0 : pj_G) (c : Int32) : F_71_39x G0 c = L_71_39x G0 c 7 (Int32.ofInt 0) := rfl
theorem lp_ct_71_39x (G0 : pj_G) (hI : pj_Inv G0) (c : Int32) : ∀ mn : Nat, (∀ (b : Int32), ((0 : Int) ≤ b.toInt ∧ b.toInt ≤ 6) → 6 - b.toInt < (mn : Int) → pj_X 0 pj_m71 G0 2 [(2, .int b), (0, .ref 39), (1, .int c)] [] (fun v' G' => ∃ y : Int32, v' = some (.int y) ∧ G0 = G' ∧ ((-1 : Int) ≤ y.toInt ∧ y.toInt ≤ 5) ∧ (y = L_71_39x G0 c mn b))) := by
  have c0_ : (Int32.ofInt (-1)).toInt = -1 := by decide
  have c1_ : (Int32.ofInt 0).toInt = 0 := by decide
  have c2_ : (Int32.ofInt 1).toInt = 1 := by decide
  have hK : pj_kpt ([], [], []) G0 G0 := pj_kpt_r _ _
  intro mn
  induction mn with
  | zero =>
    intro b rb hm
    exfalso
    omega
  | succ mn ih =>
    intro b rb hm
    rw [L_71_39x_s0]
    refine pj_X_of (fun r h => pj_R_to (G0, 4, [(2, .int b), (0, .ref 39), (1, .int c)], [.ref 39, .int b], 0, 0) 4 3 (fun _ => rfl) h) ?_
    refine pj_X_of (fun r h => pj_T_gi hI rfl rfl h) ?_
    show pj_X _ _ G0 7 [(2, .int b), (0, .ref 39), (1, .int c)] [.int (pj_fi G0 39 0), .int b] _
    obtain ⟨y1, hy1⟩ : ∃ z : Int32, z = pj_fi G0 39 0 := ⟨_, rfl⟩
    rw [← hy1]
    rw [pj_nm_e]
    have ey1 : (pj_fi G0 39 0).toInt = y1.toInt := by rw [hy1]
    have ry1 : (0 : Int) ≤ y1.toInt ∧ y1.toInt ≤ 6 := by rw [hy1]; exact hI.2.1 39 0 (0, 6) rfl
    cases b2 : pj_c1 .ge b y1 with
    | true =>
      rw [pj_cT]
      have ub2 := pj_u_geT b2
      refine pj_X_of (fun r h => pj_R_icT 37 rfl rfl b2 h) ?_
      refine pj_X_of (fun r h => pj_R_to (G0, 38, [(2, .int b), (0, .ref 39), (1, .int c)], [.int (Int32.ofInt (-1))], 0, 0) 38 2 (fun _ => rfl) h) ?_
      exact pj_X_rt rfl rfl ⟨_, rfl, rfl, ⟨by omega, by omega⟩, rfl⟩
    | false =>
      rw [pj_cF]
      have ub2 := pj_u_geF b2
      refine pj_X_of (fun r h => pj_R_icF rfl b2 h) ?_
      refine pj_X_of (fun r h => pj_R_to (G0, 11, [(2, .int b), (0, .ref 39), (1, .int c)], [.ref 39], 0, 0) 11 2 (fun _ => rfl) h) ?_
      refine pj_X_of (fun r h => pj_T_gr hI rfl rfl rfl h) ?_
      refine pj_X_of (fun r h => pj_R_to (G0, 15, [(2, .int b), (0, .ref 39), (1, .int c)], [.int b, .ref 40], 0, 0) 15 2 (fun _ => rfl) h) ?_
      refine pj_X_of (fun r h => pj_T_il hI rfl rfl (by omega) (by omega) h) ?_
      show pj_X _ _ G0 16 [(2, .int b), (0, .ref 39), (1, .int c)] [.int (pj_ai G0 40 b.toInt.toNat)] _
      obtain ⟨z3, hz3⟩ : ∃ z : Int32, z = pj_ai G0 40 b.toInt.toNat := ⟨_, rfl⟩
      rw [← hz3]
      rw [pj_nm_e]
      have ez3 : (pj_ai G0 40 b.toInt.toNat).toInt = z3.toInt := by rw [hz3]
      have fz3_0 : (-1 : Int) ≤ z3.toInt ∧ z3.toInt ≤ 9 ∧ (z3.toInt ≤ -1 ∨ -1 ≤ z3.toInt) := by rw [hz3]; exact hI.2.2.1 40 (6, -1, 9, -1, -1) rfl _ (by show _ < 6; omega)
      refine pj_X_of (fun r h => pj_R_to (G0, 17, [(2, .int b), (0, .ref 39), (1, .int c)], [.int c, .int z3], 0, 0) 17 2 (fun _ => rfl) h) ?_
      cases b4 : pj_c1 .ne z3 c with
      | true =>
        rw [pj_cT]
        have ub4 := pj_u_neT b4
        refine pj_X_of (fun r h => pj_R_icT 31 rfl rfl b4 h) ?_
        refine pj_X_of (fun r h => pj_R_to (G0, 34, [(2, .int (b + Int32.ofInt 1)), (0, .ref 39), (1, .int c)], [], 0, 0) 34 2 (fun _ => rfl) h) ?_
        obtain ⟨z5, hz5⟩ : ∃ z : Int32, z = b + Int32.ofInt 1 := ⟨_, rfl⟩
        rw [← hz5]
        rw [pj_nm_e]
        have fz5_0 : z5.toInt = b.toInt + (Int32.ofInt 1).toInt := by rw [hz5]; exact pj_addI (by have := pj_i32 b; have := pj_i32 (Int32.ofInt 1); omega) (by have := pj_i32 b; have := pj_i32 (Int32.ofInt 1); omega)
        refine pj_X_of (fun r h => pj_R_to (G0, 2, [(2, .int z5), (0, .ref 39), (1, .int c)], [], 0, 0) 2 2 (fun _ => rfl) h) ?_
        exact pj_X_sub [(2, .int z5), (0, .ref 39), (1, .int c)] (show List.Nodup [2, 0, 1] by decide) ⟨rfl, rfl, rfl, trivial⟩ (ih z5 ⟨by omega, by omega⟩ (by omega))
      | false =>
        rw [pj_cF]
        have ub4 := pj_u_neF b4
        refine pj_X_of (fun r h => pj_R_icF rfl b4 h) ?_
        refine pj_X_of (fun r h => pj_R_to (G0, 21, [(2, .int b), (0, .ref 39), (1, .int c)], [.ref 39], 0, 0) 21 2 (fun _ => rfl) h) ?_
        refine pj_X_of (fun r h => pj_T_gr hI rfl rfl rfl h) ?_
        refine pj_X_of (fun r h => pj_R_to (G0, 25, [(2, .int b), (0, .ref 39), (1, .int c)], [.int b, .ref 41], 0, 0) 25 2 (fun _ => rfl) h) ?_
        refine pj_X_of (fun r h => pj_T_il hI rfl rfl (by omega) (by omega) h) ?_
        show pj_X _ _ G0 26 [(2, .int b), (0, .ref 39), (1, .int c)] [.int (pj_ai G0 41 b.toInt.toNat)] _
        obtain ⟨z6, hz6⟩ : ∃ z : Int32, z = pj_ai G0 41 b.toInt.toNat := ⟨_, rfl⟩
        rw [← hz6]
        rw [pj_nm_e]
        have ez6 : (pj_ai G0 41 b.toInt.toNat).toInt = z6.toInt := by rw [hz6]
        cases b7 : pj_c1 .le z6 0 with
        | true =>
          rw [pj_cT]
          have ub7 := pj_u0_leT b7
          refine pj_X_of (fun r h => pj_R_ifT 31 rfl rfl b7 h) ?_
          refine pj_X_of (fun r h => pj_R_to (G0, 34, [(2, .int (b + Int32.ofInt 1)), (0, .ref 39), (1, .int c)], [], 0, 0) 34 2 (fun _ => rfl) h) ?_
          obtain ⟨z8, hz8⟩ : ∃ z : Int32, z = b + Int32.ofInt 1 := ⟨_, rfl⟩
          rw [← hz8]
          rw [pj_nm_e]
          have fz8_0 : z8.toInt = b.toInt + (Int32.ofInt 1).toInt := by rw [hz8]; exact pj_addI (by have := pj_i32 b; have := pj_i32 (Int32.ofInt 1); omega) (by have := pj_i32 b; have := pj_i32 (Int32.ofInt 1); omega)
          refine pj_X_of (fun r h => pj_R_to (G0, 2, [(2, .int z8), (0, .ref 39), (1, .int c)], [], 0, 0) 2 2 (fun _ => rfl) h) ?_
          exact pj_X_sub [(2, .int z8), (0, .ref 39), (1, .int c)] (show List.Nodup [2, 0, 1] by decide) ⟨rfl, rfl, rfl, trivial⟩ (ih z8 ⟨by omega, by omega⟩ (by omega))
        | false =>
          rw [pj_cF]
          have ub7 := pj_u0_leF b7
          refine pj_X_of (fun r h => pj_R_ifF rfl b7 h) ?_
          refine pj_X_of (fun r h => pj_R_to (G0, 30, [(2, .int b), (0, .ref 39), (1, .int c)], [.int b], 0, 0) 30 2 (fun _ => rfl) h) ?_
          exact pj_X_rt rfl rfl ⟨_, rfl, rfl, ⟨by omega, by omega⟩, rfl⟩
theorem ct_71_39x (G0 : pj_G) (hI : pj_Inv G0) (c : Int32) : pj_Y 1 71 [.ref 39, .int c] G0 (fun v' G' => ∃ y : Int32, v' = some (.int y) ∧ G0 = G' ∧ ((-1 : Int) ≤ y.toInt ∧ y.toInt ≤ 5) ∧ (y = F_71_39x G0 c)) := by
  have c0_ : (Int32.ofInt (-1)).toInt = -1 := by decide
  have c1_ : (Int32.ofInt 0).toInt = 0 := by decide
  have c2_ : (Int32.ofInt 1).toInt = 1 := by decide
  refine pj_Y_X (M := pj_m71) rfl rfl (Nat.le_of_ble_eq_true rfl) ?_
  have hK : pj_kpt ([], [], []) G0 G0 := pj_kpt_r _ _
  show pj_X _ _ G0 0 [(0, .ref 39), (1, .int c)] [] _
  rw [F_71_39x_e]
  refine pj_X_of (fun r h => pj_R_to (G0, 2, [(2, .int (Int32.ofInt 0)), (0, .ref 39), (1, .int c)], [], 0, 0) 2 3 (fun _ => rfl) h) ?_
  exact pj_X_sub [(2, .int (Int32.ofInt 0)), (0, .ref 39), (1, .int c)] (show List.Nodup [2, 0, 1] by decide) ⟨rfl, rfl, rfl, trivial⟩ ((lp_ct_71_39x G0 hI c  7) (Int32.ofInt 0) ⟨by omega, by omega⟩ (by omega))
theorem fr_71_39x (G0 : pj_G) (hI : pj_Inv G0) (c : Int32) : ((-1 : Int) ≤ (F_71_39x G0 c).toInt ∧ (F_71_39x G0 c).toInt ≤ 5) := by
  obtain ⟨v, G', -, y, -, rfl, r, e⟩ := ct_71_39x G0 hI c
  rw [← e]
  exact r
noncomputable def F_72_39x (G0 : pj_G) (c : Int32) : Int32 := pj_nm (F_70_39x G0 c) (fun y1 => cond (pj_c1 .ne y1 (Int32.ofInt (-1))) (Int32.ofInt 0) (pj_nm (F_71_39x G0 c) (fun y3 => cond (pj_c1 .ne y3 (Int32.ofInt (-1))) (Int32.ofInt 0) (Int32.ofInt 1))))
theorem F_72_39x_e (G0 : pj_G) (c : Int32) : F_72_39x G0 c = pj_nm (F_70_39x G0 c) (fun y1 => cond (pj_c1 .ne y1 (Int32.ofInt (-1))) (Int32.ofInt 0) (pj_nm (F_71_39x G0 c) (fun y3 => cond (pj_c1 .ne y3 (Int32.ofInt (-1))) (Int32.ofInt 0) (Int32.ofInt 1)))) := rfl
theorem ct_72_39x (G0 : pj_G) (hI : pj_Inv G0) (c : Int32) : pj_Y 2 72 [.ref 39, .int c] G0 (fun v' G' => ∃ y : Int32, v' = some (.int y) ∧ G0 = G' ∧ ((0 : Int) ≤ y.toInt ∧ y.toInt ≤ 1) ∧ (y = F_72_39x G0 c)) := by
  have c0_ : (Int32.ofInt (-1)).toInt = -1 := by decide
  have c1_ : (Int32.ofInt 0).toInt = 0 := by decide
  have c2_ : (Int32.ofInt 1).toInt = 1 := by decide
  refine pj_Y_X (M := pj_m72) rfl rfl (Nat.le_of_ble_eq_true rfl) ?_
  have hK : pj_kpt ([], [], []) G0 G0 := pj_kpt_r _ _
  show pj_X _ _ G0 0 [(0, .ref 39), (1, .int c)] [] _
  rw [F_72_39x_e]
  refine pj_X_of (fun r h => pj_R_to (G0, 2, [(0, .ref 39), (1, .int c)], [.int c, .ref 39], 0, 0) 2 3 (fun _ => rfl) h) ?_
  refine pj_X_ca (vs := [.ref 39, .int c]) rfl (fun _ => rfl) ⟨Nat.le_of_ble_eq_true rfl, Nat.le_of_ble_eq_true rfl, pj_T_rcv hI rfl⟩ ⟨rfl, rfl⟩ (pj_Y_up (by decide) (ct_70_39x G0 hI c)) ?_
  rintro _ _ ⟨y1, rfl, rfl, ry1, fy1⟩
  rw [← fy1, pj_nm_e]
  show pj_X _ _ G0 5 [(0, .ref 39), (1, .int c)] [.int y1] _
  refine pj_X_of (fun r h => pj_R_to (G0, 6, [(0, .ref 39), (1, .int c)], [.int (Int32.ofInt (-1)), .int y1], 0, 0) 6 2 (fun _ => rfl) h) ?_
  cases b2 : pj_c1 .ne y1 (Int32.ofInt (-1)) with
  | true =>
    rw [pj_cT]
    have ub2 := pj_u_neT b2
    refine pj_X_of (fun r h => pj_R_icT 22 rfl rfl b2 h) ?_
    refine pj_X_of (fun r h => pj_R_to (G0, 23, [(0, .ref 39), (1, .int c)], [.int (Int32.ofInt 0)], 0, 0) 23 2 (fun _ => rfl) h) ?_
    exact pj_X_rt rfl rfl ⟨_, rfl, rfl, ⟨by omega, by omega⟩, rfl⟩
  | false =>
    rw [pj_cF]
    have ub2 := pj_u_neF b2
    refine pj_X_of (fun r h => pj_R_icF rfl b2 h) ?_
    refine pj_X_of (fun r h => pj_R_to (G0, 11, [(0, .ref 39), (1, .int c)], [.int c, .ref 39], 0, 0) 11 3 (fun _ => rfl) h) ?_
    refine pj_X_ca (vs := [.ref 39, .int c]) rfl (fun _ => rfl) ⟨Nat.le_of_ble_eq_true rfl, Nat.le_of_ble_eq_true rfl, pj_T_rcv hI rfl⟩ ⟨rfl, rfl⟩ (pj_Y_up (by decide) (ct_71_39x G0 hI c)) ?_
    rintro _ _ ⟨y3, rfl, rfl, ry3, fy3⟩
    rw [← fy3, pj_nm_e]
    show pj_X _ _ G0 14 [(0, .ref 39), (1, .int c)] [.int y3] _
    refine pj_X_of (fun r h => pj_R_to (G0, 15, [(0, .ref 39), (1, .int c)], [.int (Int32.ofInt (-1)), .int y3], 0, 0) 15 2 (fun _ => rfl) h) ?_
    cases b4 : pj_c1 .ne y3 (Int32.ofInt (-1)) with
    | true =>
      rw [pj_cT]
      have ub4 := pj_u_neT b4
      refine pj_X_of (fun r h => pj_R_icT 22 rfl rfl b4 h) ?_
      refine pj_X_of (fun r h => pj_R_to (G0, 23, [(0, .ref 39), (1, .int c)], [.int (Int32.ofInt 0)], 0, 0) 23 2 (fun _ => rfl) h) ?_
      exact pj_X_rt rfl rfl ⟨_, rfl, rfl, ⟨by omega, by omega⟩, rfl⟩
    | false =>
      rw [pj_cF]
      have ub4 := pj_u_neF b4
      refine pj_X_of (fun r h => pj_R_icF rfl b4 h) ?_
      refine pj_X_of (fun r h => pj_R_to (G0, 23, [(0, .ref 39), (1, .int c)], [.int (Int32.ofInt 1)], 0, 0) 23 3 (fun _ => rfl) h) ?_
      exact pj_X_rt rfl rfl ⟨_, rfl, rfl, ⟨by omega, by omega⟩, rfl⟩
theorem fr_72_39x (G0 : pj_G) (hI : pj_Inv G0) (c : Int32) : ((0 : Int) ≤ (F_72_39x G0 c).toInt ∧ (F_72_39x G0 c).toInt ≤ 1) := by
  obtain ⟨v, G', -, y, -, rfl, r, e⟩ := ct_72_39x G0 hI c
  rw [← e]
  exact r
theorem lp_ct_73_39 (G0 : pj_G) (hI : pj_Inv G0) : ∀ mn : Nat, (∀ (b : Int32) (v : Int32), ((0 : Int) ≤ b.toInt ∧ b.toInt ≤ 6) → ((-2147483648 : Int) ≤ v.toInt ∧ v.toInt ≤ 2147483647) → 6 - b.toInt < (mn : Int) → pj_X 0 pj_m73 G0 4 [(2, .int b), (0, .ref 39), (1, .int v)] [] (fun v G' => ∃ y : Int32, v = some (.int y) ∧ G0 = G' ∧ ((-2147483648 : Int) ≤ y.toInt ∧ y.toInt ≤ 2147483647))) := by
  have c0_ : (Int32.ofInt (-1)).toInt = -1 := by decide
  have c1_ : (Int32.ofInt 0).toInt = 0 := by decide
  have c2_ : (Int32.ofInt 1).toInt = 1 := by decide
  have hK : pj_kpt ([], [], []) G0 G0 := pj_kpt_r _ _
  intro mn
  induction mn with
  | zero =>
    intro b v rb rv hm
    exfalso
    omega
  | succ mn ih =>
    intro b v rb rv hm
    refine pj_X_of (fun r h => pj_R_to (G0, 6, [(2, .int b), (0, .ref 39), (1, .int v)], [.ref 39, .int b], 0, 0) 6 3 (fun _ => rfl) h) ?_
    refine pj_X_of (fun r h => pj_T_gi hI rfl rfl h) ?_
    show pj_X _ _ G0 9 [(2, .int b), (0, .ref 39), (1, .int v)] [.int (pj_fi G0 39 0), .int b] _
    obtain ⟨y1, hy1⟩ : ∃ z : Int32, z = pj_fi G0 39 0 := ⟨_, rfl⟩
    rw [← hy1]
    have ey1 : (pj_fi G0 39 0).toInt = y1.toInt := by rw [hy1]
    have ry1 : (0 : Int) ≤ y1.toInt ∧ y1.toInt ≤ 6 := by rw [hy1]; exact hI.2.1 39 0 (0, 6) rfl
    cases b2 : pj_c1 .ge b y1 with
    | true =>
      have ub2 := pj_u_geT b2
      refine pj_X_of (fun r h => pj_R_icT 47 rfl rfl b2 h) ?_
      refine pj_X_of (fun r h => pj_R_to (G0, 48, [(2, .int b), (0, .ref 39), (1, .int v)], [.int v], 0, 0) 48 2 (fun _ => rfl) h) ?_
      exact pj_X_rt rfl rfl ⟨_, rfl, rfl, pj_i32 _⟩
    | false =>
      have ub2 := pj_u_geF b2
      refine pj_X_of (fun r h => pj_R_icF rfl b2 h) ?_
      refine pj_X_of (fun r h => pj_R_to (G0, 14, [(2, .int b), (0, .ref 39), (1, .int v)], [.ref 39, .int v], 0, 0) 14 3 (fun _ => rfl) h) ?_
      refine pj_X_of (fun r h => pj_T_gr hI rfl rfl rfl h) ?_
      refine pj_X_of (fun r h => pj_R_to (G0, 18, [(2, .int b), (0, .ref 39), (1, .int v)], [.int b, .ref 40, .int v], 0, 0) 18 2 (fun _ => rfl) h) ?_
      refine pj_X_of (fun r h => pj_T_il hI rfl rfl (by omega) (by omega) h) ?_
      show pj_X _ _ G0 19 [(2, .int b), (0, .ref 39), (1, .int v)] [.int (pj_ai G0 40 b.toInt.toNat), .int v] _
      obtain ⟨z3, hz3⟩ : ∃ z : Int32, z = pj_ai G0 40 b.toInt.toNat := ⟨_, rfl⟩
      rw [← hz3]
      have ez3 : (pj_ai G0 40 b.toInt.toNat).toInt = z3.toInt := by rw [hz3]
      have fz3_0 : (-1 : Int) ≤ z3.toInt ∧ z3.toInt ≤ 9 ∧ (z3.toInt ≤ -1 ∨ -1 ≤ z3.toInt) := by rw [hz3]; exact hI.2.2.1 40 (6, -1, 9, -1, -1) rfl _ (by show _ < 6; omega)
      refine pj_X_of (fun r h => pj_R_to (G0, 20, [(2, .int b), (0, .ref 39), (1, .int v)], [.int (Int32.ofInt (-1)), .int z3, .int v], 0, 0) 20 2 (fun _ => rfl) h) ?_
      cases b4 : pj_c1 .ne z3 (Int32.ofInt (-1)) with
      | true =>
        have ub4 := pj_u_neT b4
        refine pj_X_of (fun r h => pj_R_icT 38 rfl rfl b4 h) ?_
        refine pj_X_of (fun r h => pj_R_to (G0, 40, [(2, .int b), (0, .ref 39), (1, .int v)], [.int (v ||| (Int32.ofInt 0))], 0, 0) 40 3 (fun _ => rfl) h) ?_
        obtain ⟨z5, hz5⟩ : ∃ z : Int32, z = v ||| (Int32.ofInt 0) := ⟨_, rfl⟩
        rw [← hz5]
        refine pj_X_of (fun r h => pj_R_to (G0, 44, [(2, .int (b + Int32.ofInt 1)), (1, .int z5), (0, .ref 39)], [], 0, 0) 44 3 (fun _ => rfl) h) ?_
        obtain ⟨z6, hz6⟩ : ∃ z : Int32, z = b + Int32.ofInt 1 := ⟨_, rfl⟩
        rw [← hz6]
        have fz6_0 : z6.toInt = b.toInt + (Int32.ofInt 1).toInt := by rw [hz6]; exact pj_addI (by have := pj_i32 b; have := pj_i32 (Int32.ofInt 1); omega) (by have := pj_i32 b; have := pj_i32 (Int32.ofInt 1); omega)
        refine pj_X_of (fun r h => pj_R_to (G0, 4, [(2, .int z6), (1, .int z5), (0, .ref 39)], [], 0, 0) 4 2 (fun _ => rfl) h) ?_
        exact pj_X_sub [(2, .int z6), (0, .ref 39), (1, .int z5)] (show List.Nodup [2, 0, 1] by decide) ⟨rfl, rfl, rfl, trivial⟩ (ih z6 z5 ⟨by omega, by omega⟩ (pj_i32 _) (by omega))
      | false =>
        have ub4 := pj_u_neF b4
        refine pj_X_of (fun r h => pj_R_icF rfl b4 h) ?_
        refine pj_X_of (fun r h => pj_R_to (G0, 24, [(2, .int b), (0, .ref 39), (1, .int v)], [.ref 39, .int v], 0, 0) 24 2 (fun _ => rfl) h) ?_
        refine pj_X_of (fun r h => pj_T_gr hI rfl rfl rfl h) ?_
        refine pj_X_of (fun r h => pj_R_to (G0, 28, [(2, .int b), (0, .ref 39), (1, .int v)], [.int b, .ref 41, .int v], 0, 0) 28 2 (fun _ => rfl) h) ?_
        refine pj_X_of (fun r h => pj_T_il hI rfl rfl (by omega) (by omega) h) ?_
        show pj_X _ _ G0 29 [(2, .int b), (0, .ref 39), (1, .int v)] [.int (pj_ai G0 41 b.toInt.toNat), .int v] _
        obtain ⟨z7, hz7⟩ : ∃ z : Int32, z = pj_ai G0 41 b.toInt.toNat := ⟨_, rfl⟩
        rw [← hz7]
        have ez7 : (pj_ai G0 41 b.toInt.toNat).toInt = z7.toInt := by rw [hz7]
        cases b8 : pj_c1 .ne z7 0 with
        | true =>
          have ub8 := pj_u0_neT b8
          refine pj_X_of (fun r h => pj_R_ifT 38 rfl rfl b8 h) ?_
          refine pj_X_of (fun r h => pj_R_to (G0, 40, [(2, .int b), (0, .ref 39), (1, .int v)], [.int (v ||| (Int32.ofInt 0))], 0, 0) 40 3 (fun _ => rfl) h) ?_
          obtain ⟨z9, hz9⟩ : ∃ z : Int32, z = v ||| (Int32.ofInt 0) := ⟨_, rfl⟩
          rw [← hz9]
          refine pj_X_of (fun r h => pj_R_to (G0, 44, [(2, .int (b + Int32.ofInt 1)), (1, .int z9), (0, .ref 39)], [], 0, 0) 44 3 (fun _ => rfl) h) ?_
          obtain ⟨z10, hz10⟩ : ∃ z : Int32, z = b + Int32.ofInt 1 := ⟨_, rfl⟩
          rw [← hz10]
          have fz10_0 : z10.toInt = b.toInt + (Int32.ofInt 1).toInt := by rw [hz10]; exact pj_addI (by have := pj_i32 b; have := pj_i32 (Int32.ofInt 1); omega) (by have := pj_i32 b; have := pj_i32 (Int32.ofInt 1); omega)
          refine pj_X_of (fun r h => pj_R_to (G0, 4, [(2, .int z10), (1, .int z9), (0, .ref 39)], [], 0, 0) 4 2 (fun _ => rfl) h) ?_
          exact pj_X_sub [(2, .int z10), (0, .ref 39), (1, .int z9)] (show List.Nodup [2, 0, 1] by decide) ⟨rfl, rfl, rfl, trivial⟩ (ih z10 z9 ⟨by omega, by omega⟩ (pj_i32 _) (by omega))
        | false =>
          have ub8 := pj_u0_neF b8
          refine pj_X_of (fun r h => pj_R_ifF rfl b8 h) ?_
          refine pj_X_of (fun r h => pj_R_to (G0, 35, [(2, .int b), (0, .ref 39), (1, .int v)], [.int ((Int32.ofInt 1) <<< (b &&& 31)), .int v], 0, 0) 35 4 (fun _ => rfl) h) ?_
          obtain ⟨z11, hz11⟩ : ∃ z : Int32, z = (Int32.ofInt 1) <<< (b &&& 31) := ⟨_, rfl⟩
          rw [← hz11]
          have fz11_0 : 1 ≤ z11.toInt ∧ z11.toInt ≤ 32 := by rw [hz11]; exact pj_shlI5 (by omega) (by omega)
          refine pj_X_of (fun r h => pj_R_to (G0, 40, [(2, .int b), (0, .ref 39), (1, .int v)], [.int (v ||| z11)], 0, 0) 40 3 (fun _ => rfl) h) ?_
          obtain ⟨z12, hz12⟩ : ∃ z : Int32, z = v ||| z11 := ⟨_, rfl⟩
          rw [← hz12]
          refine pj_X_of (fun r h => pj_R_to (G0, 44, [(2, .int (b + Int32.ofInt 1)), (1, .int z12), (0, .ref 39)], [], 0, 0) 44 3 (fun _ => rfl) h) ?_
          obtain ⟨z13, hz13⟩ : ∃ z : Int32, z = b + Int32.ofInt 1 := ⟨_, rfl⟩
          rw [← hz13]
          have fz13_0 : z13.toInt = b.toInt + (Int32.ofInt 1).toInt := by rw [hz13]; exact pj_addI (by have := pj_i32 b; have := pj_i32 (Int32.ofInt 1); omega) (by have := pj_i32 b; have := pj_i32 (Int32.ofInt 1); omega)
          refine pj_X_of (fun r h => pj_R_to (G0, 4, [(2, .int z13), (1, .int z12), (0, .ref 39)], [], 0, 0) 4 2 (fun _ => rfl) h) ?_
          exact pj_X_sub [(2, .int z13), (0, .ref 39), (1, .int z12)] (show List.Nodup [2, 0, 1] by decide) ⟨rfl, rfl, rfl, trivial⟩ (ih z13 z12 ⟨by omega, by omega⟩ (pj_i32 _) (by omega))
theorem ct_73_39 (G0 : pj_G) (hI : pj_Inv G0) : pj_Y 1 73 [.ref 39] G0 (fun v G' => ∃ y : Int32, v = some (.int y) ∧ G0 = G' ∧ ((-2147483648 : Int) ≤ y.toInt ∧ y.toInt ≤ 2147483647)) := by
  have c0_ : (Int32.ofInt (-1)).toInt = -1 := by decide
  have c1_ : (Int32.ofInt 0).toInt = 0 := by decide
  have c2_ : (Int32.ofInt 1).toInt = 1 := by decide
  refine pj_Y_X (M := pj_m73) rfl rfl (Nat.le_of_ble_eq_true rfl) ?_
  have hK : pj_kpt ([], [], []) G0 G0 := pj_kpt_r _ _
  show pj_X _ _ G0 0 [(0, .ref 39)] [] _
  refine pj_X_of (fun r h => pj_R_to (G0, 4, [(2, .int (Int32.ofInt 0)), (1, .int (Int32.ofInt 0)), (0, .ref 39)], [], 0, 0) 4 5 (fun _ => rfl) h) ?_
  exact pj_X_sub [(2, .int (Int32.ofInt 0)), (0, .ref 39), (1, .int (Int32.ofInt 0))] (show List.Nodup [2, 0, 1] by decide) ⟨rfl, rfl, rfl, trivial⟩ ((lp_ct_73_39 G0 hI   7) (Int32.ofInt 0) (Int32.ofInt 0) ⟨by omega, by omega⟩ (pj_i32 _) (by omega))
theorem lp_ct_74_39 (G0 : pj_G) (hI : pj_Inv G0) : ∀ mn : Nat, (∀ (b : Int32) (v : Int32), ((0 : Int) ≤ b.toInt ∧ b.toInt ≤ 6) → ((-2147483648 : Int) ≤ v.toInt ∧ v.toInt ≤ 2147483647) → 6 - b.toInt < (mn : Int) → pj_X 0 pj_m74 G0 4 [(2, .int b), (0, .ref 39), (1, .int v)] [] (fun v G' => ∃ y : Int32, v = some (.int y) ∧ G0 = G' ∧ ((-2147483648 : Int) ≤ y.toInt ∧ y.toInt ≤ 2147483647))) := by
  have c0_ : (Int32.ofInt 0).toInt = 0 := by decide
  have c1_ : (Int32.ofInt 1).toInt = 1 := by decide
  have hK : pj_kpt ([], [], []) G0 G0 := pj_kpt_r _ _
  intro mn
  induction mn with
  | zero =>
    intro b v rb rv hm
    exfalso
    omega
  | succ mn ih =>
    intro b v rb rv hm
    refine pj_X_of (fun r h => pj_R_to (G0, 6, [(2, .int b), (0, .ref 39), (1, .int v)], [.ref 39, .int b], 0, 0) 6 3 (fun _ => rfl) h) ?_
    refine pj_X_of (fun r h => pj_T_gi hI rfl rfl h) ?_
    show pj_X _ _ G0 9 [(2, .int b), (0, .ref 39), (1, .int v)] [.int (pj_fi G0 39 0), .int b] _
    obtain ⟨y1, hy1⟩ : ∃ z : Int32, z = pj_fi G0 39 0 := ⟨_, rfl⟩
    rw [← hy1]
    have ey1 : (pj_fi G0 39 0).toInt = y1.toInt := by rw [hy1]
    have ry1 : (0 : Int) ≤ y1.toInt ∧ y1.toInt ≤ 6 := by rw [hy1]; exact hI.2.1 39 0 (0, 6) rfl
    cases b2 : pj_c1 .ge b y1 with
    | true =>
      have ub2 := pj_u_geT b2
      refine pj_X_of (fun r h => pj_R_icT 37 rfl rfl b2 h) ?_
      refine pj_X_of (fun r h => pj_R_to (G0, 38, [(2, .int b), (0, .ref 39), (1, .int v)], [.int v], 0, 0) 38 2 (fun _ => rfl) h) ?_
      exact pj_X_rt rfl rfl ⟨_, rfl, rfl, pj_i32 _⟩
    | false =>
      have ub2 := pj_u_geF b2
      refine pj_X_of (fun r h => pj_R_icF rfl b2 h) ?_
      refine pj_X_of (fun r h => pj_R_to (G0, 14, [(2, .int b), (0, .ref 39), (1, .int v)], [.ref 39, .int v], 0, 0) 14 3 (fun _ => rfl) h) ?_
      refine pj_X_of (fun r h => pj_T_gr hI rfl rfl rfl h) ?_
      refine pj_X_of (fun r h => pj_R_to (G0, 18, [(2, .int b), (0, .ref 39), (1, .int v)], [.int b, .ref 41, .int v], 0, 0) 18 2 (fun _ => rfl) h) ?_
      refine pj_X_of (fun r h => pj_T_il hI rfl rfl (by omega) (by omega) h) ?_
      show pj_X _ _ G0 19 [(2, .int b), (0, .ref 39), (1, .int v)] [.int (pj_ai G0 41 b.toInt.toNat), .int v] _
      obtain ⟨z3, hz3⟩ : ∃ z : Int32, z = pj_ai G0 41 b.toInt.toNat := ⟨_, rfl⟩
      rw [← hz3]
      have ez3 : (pj_ai G0 41 b.toInt.toNat).toInt = z3.toInt := by rw [hz3]
      cases b4 : pj_c1 .le z3 0 with
      | true =>
        have ub4 := pj_u0_leT b4
        refine pj_X_of (fun r h => pj_R_ifT 28 rfl rfl b4 h) ?_
        refine pj_X_of (fun r h => pj_R_to (G0, 30, [(2, .int b), (0, .ref 39), (1, .int v)], [.int (v ||| (Int32.ofInt 0))], 0, 0) 30 3 (fun _ => rfl) h) ?_
        obtain ⟨z5, hz5⟩ : ∃ z : Int32, z = v ||| (Int32.ofInt 0) := ⟨_, rfl⟩
        rw [← hz5]
        refine pj_X_of (fun r h => pj_R_to (G0, 34, [(2, .int (b + Int32.ofInt 1)), (1, .int z5), (0, .ref 39)], [], 0, 0) 34 3 (fun _ => rfl) h) ?_
        obtain ⟨z6, hz6⟩ : ∃ z : Int32, z = b + Int32.ofInt 1 := ⟨_, rfl⟩
        rw [← hz6]
        have fz6_0 : z6.toInt = b.toInt + (Int32.ofInt 1).toInt := by rw [hz6]; exact pj_addI (by have := pj_i32 b; have := pj_i32 (Int32.ofInt 1); omega) (by have := pj_i32 b; have := pj_i32 (Int32.ofInt 1); omega)
        refine pj_X_of (fun r h => pj_R_to (G0, 4, [(2, .int z6), (1, .int z5), (0, .ref 39)], [], 0, 0) 4 2 (fun _ => rfl) h) ?_
        exact pj_X_sub [(2, .int z6), (0, .ref 39), (1, .int z5)] (show List.Nodup [2, 0, 1] by decide) ⟨rfl, rfl, rfl, trivial⟩ (ih z6 z5 ⟨by omega, by omega⟩ (pj_i32 _) (by omega))
      | false =>
        have ub4 := pj_u0_leF b4
        refine pj_X_of (fun r h => pj_R_ifF rfl b4 h) ?_
        refine pj_X_of (fun r h => pj_R_to (G0, 25, [(2, .int b), (0, .ref 39), (1, .int v)], [.int ((Int32.ofInt 1) <<< (b &&& 31)), .int v], 0, 0) 25 4 (fun _ => rfl) h) ?_
        obtain ⟨z7, hz7⟩ : ∃ z : Int32, z = (Int32.ofInt 1) <<< (b &&& 31) := ⟨_, rfl⟩
        rw [← hz7]
        have fz7_0 : 1 ≤ z7.toInt ∧ z7.toInt ≤ 32 := by rw [hz7]; exact pj_shlI5 (by omega) (by omega)
        refine pj_X_of (fun r h => pj_R_to (G0, 30, [(2, .int b), (0, .ref 39), (1, .int v)], [.int (v ||| z7)], 0, 0) 30 3 (fun _ => rfl) h) ?_
        obtain ⟨z8, hz8⟩ : ∃ z : Int32, z = v ||| z7 := ⟨_, rfl⟩
        rw [← hz8]
        refine pj_X_of (fun r h => pj_R_to (G0, 34, [(2, .int (b + Int32.ofInt 1)), (1, .int z8), (0, .ref 39)], [], 0, 0) 34 3 (fun _ => rfl) h) ?_
        obtain ⟨z9, hz9⟩ : ∃ z : Int32, z = b + Int32.ofInt 1 := ⟨_, rfl⟩
        rw [← hz9]
        have fz9_0 : z9.toInt = b.toInt + (Int32.ofInt 1).toInt := by rw [hz9]; exact pj_addI (by have := pj_i32 b; have := pj_i32 (Int32.ofInt 1); omega) (by have := pj_i32 b; have := pj_i32 (Int32.ofInt 1); omega)
        refine pj_X_of (fun r h => pj_R_to (G0, 4, [(2, .int z9), (1, .int z8), (0, .ref 39)], [], 0, 0) 4 2 (fun _ => rfl) h) ?_
        exact pj_X_sub [(2, .int z9), (0, .ref 39), (1, .int z8)] (show List.Nodup [2, 0, 1] by decide) ⟨rfl, rfl, rfl, trivial⟩ (ih z9 z8 ⟨by omega, by omega⟩ (pj_i32 _) (by omega))
theorem ct_74_39 (G0 : pj_G) (hI : pj_Inv G0) : pj_Y 1 74 [.ref 39] G0 (fun v G' => ∃ y : Int32, v = some (.int y) ∧ G0 = G' ∧ ((-2147483648 : Int) ≤ y.toInt ∧ y.toInt ≤ 2147483647)) := by
  have c0_ : (Int32.ofInt 0).toInt = 0 := by decide
  have c1_ : (Int32.ofInt 1).toInt = 1 := by decide
  refine pj_Y_X (M := pj_m74) rfl rfl (Nat.le_of_ble_eq_true rfl) ?_
  have hK : pj_kpt ([], [], []) G0 G0 := pj_kpt_r _ _
  show pj_X _ _ G0 0 [(0, .ref 39)] [] _
  refine pj_X_of (fun r h => pj_R_to (G0, 4, [(2, .int (Int32.ofInt 0)), (1, .int (Int32.ofInt 0)), (0, .ref 39)], [], 0, 0) 4 5 (fun _ => rfl) h) ?_
  exact pj_X_sub [(2, .int (Int32.ofInt 0)), (0, .ref 39), (1, .int (Int32.ofInt 0))] (show List.Nodup [2, 0, 1] by decide) ⟨rfl, rfl, rfl, trivial⟩ ((lp_ct_74_39 G0 hI   7) (Int32.ofInt 0) (Int32.ofInt 0) ⟨by omega, by omega⟩ (pj_i32 _) (by omega))
theorem lp_ct_75_39 (G0 : pj_G) (hI : pj_Inv G0) : ∀ mn : Nat, (∀ (b : Int32) (v : Int32), ((0 : Int) ≤ b.toInt ∧ b.toInt ≤ 6) → ((-2147483648 : Int) ≤ v.toInt ∧ v.toInt ≤ 2147483647) → 6 - b.toInt < (mn : Int) → pj_X 0 pj_m75 G0 4 [(2, .int b), (0, .ref 39), (1, .int v)] [] (fun v G' => ∃ y : Int32, v = some (.int y) ∧ G0 = G' ∧ ((-2147483648 : Int) ≤ y.toInt ∧ y.toInt ≤ 2147483647))) := by
  have c0_ : (Int32.ofInt (-1)).toInt = -1 := by decide
  have c1_ : (Int32.ofInt 0).toInt = 0 := by decide
  have c2_ : (Int32.ofInt 1).toInt = 1 := by decide
  have hK : pj_kpt ([], [], []) G0 G0 := pj_kpt_r _ _
  intro mn
  induction mn with
  | zero =>
    intro b v rb rv hm
    exfalso
    omega
  | succ mn ih =>
    intro b v rb rv hm
    refine pj_X_of (fun r h => pj_R_to (G0, 6, [(2, .int b), (0, .ref 39), (1, .int v)], [.ref 39, .int b], 0, 0) 6 3 (fun _ => rfl) h) ?_
    refine pj_X_of (fun r h => pj_T_gi hI rfl rfl h) ?_
    show pj_X _ _ G0 9 [(2, .int b), (0, .ref 39), (1, .int v)] [.int (pj_fi G0 39 0), .int b] _
    obtain ⟨y1, hy1⟩ : ∃ z : Int32, z = pj_fi G0 39 0 := ⟨_, rfl⟩
    rw [← hy1]
    have ey1 : (pj_fi G0 39 0).toInt = y1.toInt := by rw [hy1]
    have ry1 : (0 : Int) ≤ y1.toInt ∧ y1.toInt ≤ 6 := by rw [hy1]; exact hI.2.1 39 0 (0, 6) rfl
    cases b2 : pj_c1 .ge b y1 with
    | true =>
      have ub2 := pj_u_geT b2
      refine pj_X_of (fun r h => pj_R_icT 38 rfl rfl b2 h) ?_
      refine pj_X_of (fun r h => pj_R_to (G0, 39, [(2, .int b), (0, .ref 39), (1, .int v)], [.int v], 0, 0) 39 2 (fun _ => rfl) h) ?_
      exact pj_X_rt rfl rfl ⟨_, rfl, rfl, pj_i32 _⟩
    | false =>
      have ub2 := pj_u_geF b2
      refine pj_X_of (fun r h => pj_R_icF rfl b2 h) ?_
      refine pj_X_of (fun r h => pj_R_to (G0, 14, [(2, .int b), (0, .ref 39), (1, .int v)], [.ref 39, .int v], 0, 0) 14 3 (fun _ => rfl) h) ?_
      refine pj_X_of (fun r h => pj_T_gr hI rfl rfl rfl h) ?_
      refine pj_X_of (fun r h => pj_R_to (G0, 18, [(2, .int b), (0, .ref 39), (1, .int v)], [.int b, .ref 43, .int v], 0, 0) 18 2 (fun _ => rfl) h) ?_
      refine pj_X_of (fun r h => pj_T_il hI rfl rfl (by omega) (by omega) h) ?_
      show pj_X _ _ G0 19 [(2, .int b), (0, .ref 39), (1, .int v)] [.int (pj_ai G0 43 b.toInt.toNat), .int v] _
      obtain ⟨z3, hz3⟩ : ∃ z : Int32, z = pj_ai G0 43 b.toInt.toNat := ⟨_, rfl⟩
      rw [← hz3]
      have ez3 : (pj_ai G0 43 b.toInt.toNat).toInt = z3.toInt := by rw [hz3]
      refine pj_X_of (fun r h => pj_R_to (G0, 20, [(2, .int b), (0, .ref 39), (1, .int v)], [.int (Int32.ofInt (-1)), .int z3, .int v], 0, 0) 20 2 (fun _ => rfl) h) ?_
      cases b4 : pj_c1 .eq z3 (Int32.ofInt (-1)) with
      | true =>
        have ub4 := pj_u_eqT b4
        refine pj_X_of (fun r h => pj_R_icT 29 rfl rfl b4 h) ?_
        refine pj_X_of (fun r h => pj_R_to (G0, 31, [(2, .int b), (0, .ref 39), (1, .int v)], [.int (v ||| (Int32.ofInt 0))], 0, 0) 31 3 (fun _ => rfl) h) ?_
        obtain ⟨z5, hz5⟩ : ∃ z : Int32, z = v ||| (Int32.ofInt 0) := ⟨_, rfl⟩
        rw [← hz5]
        refine pj_X_of (fun r h => pj_R_to (G0, 35, [(2, .int (b + Int32.ofInt 1)), (1, .int z5), (0, .ref 39)], [], 0, 0) 35 3 (fun _ => rfl) h) ?_
        obtain ⟨z6, hz6⟩ : ∃ z : Int32, z = b + Int32.ofInt 1 := ⟨_, rfl⟩
        rw [← hz6]
        have fz6_0 : z6.toInt = b.toInt + (Int32.ofInt 1).toInt := by rw [hz6]; exact pj_addI (by have := pj_i32 b; have := pj_i32 (Int32.ofInt 1); omega) (by have := pj_i32 b; have := pj_i32 (Int32.ofInt 1); omega)
        refine pj_X_of (fun r h => pj_R_to (G0, 4, [(2, .int z6), (1, .int z5), (0, .ref 39)], [], 0, 0) 4 2 (fun _ => rfl) h) ?_
        exact pj_X_sub [(2, .int z6), (0, .ref 39), (1, .int z5)] (show List.Nodup [2, 0, 1] by decide) ⟨rfl, rfl, rfl, trivial⟩ (ih z6 z5 ⟨by omega, by omega⟩ (pj_i32 _) (by omega))
      | false =>
        have ub4 := pj_u_eqF b4
        refine pj_X_of (fun r h => pj_R_icF rfl b4 h) ?_
        refine pj_X_of (fun r h => pj_R_to (G0, 26, [(2, .int b), (0, .ref 39), (1, .int v)], [.int ((Int32.ofInt 1) <<< (b &&& 31)), .int v], 0, 0) 26 4 (fun _ => rfl) h) ?_
        obtain ⟨z7, hz7⟩ : ∃ z : Int32, z = (Int32.ofInt 1) <<< (b &&& 31) := ⟨_, rfl⟩
        rw [← hz7]
        have fz7_0 : 1 ≤ z7.toInt ∧ z7.toInt ≤ 32 := by rw [hz7]; exact pj_shlI5 (by omega) (by omega)
        refine pj_X_of (fun r h => pj_R_to (G0, 31, [(2, .int b), (0, .ref 39), (1, .int v)], [.int (v ||| z7)], 0, 0) 31 3 (fun _ => rfl) h) ?_
        obtain ⟨z8, hz8⟩ : ∃ z : Int32, z = v ||| z7 := ⟨_, rfl⟩
        rw [← hz8]
        refine pj_X_of (fun r h => pj_R_to (G0, 35, [(2, .int (b + Int32.ofInt 1)), (1, .int z8), (0, .ref 39)], [], 0, 0) 35 3 (fun _ => rfl) h) ?_
        obtain ⟨z9, hz9⟩ : ∃ z : Int32, z = b + Int32.ofInt 1 := ⟨_, rfl⟩
        rw [← hz9]
        have fz9_0 : z9.toInt = b.toInt + (Int32.ofInt 1).toInt := by rw [hz9]; exact pj_addI (by have := pj_i32 b; have := pj_i32 (Int32.ofInt 1); omega) (by have := pj_i32 b; have := pj_i32 (Int32.ofInt 1); omega)
        refine pj_X_of (fun r h => pj_R_to (G0, 4, [(2, .int z9), (1, .int z8), (0, .ref 39)], [], 0, 0) 4 2 (fun _ => rfl) h) ?_
        exact pj_X_sub [(2, .int z9), (0, .ref 39), (1, .int z8)] (show List.Nodup [2, 0, 1] by decide) ⟨rfl, rfl, rfl, trivial⟩ (ih z9 z8 ⟨by omega, by omega⟩ (pj_i32 _) (by omega))
theorem ct_75_39 (G0 : pj_G) (hI : pj_Inv G0) : pj_Y 1 75 [.ref 39] G0 (fun v G' => ∃ y : Int32, v = some (.int y) ∧ G0 = G' ∧ ((-2147483648 : Int) ≤ y.toInt ∧ y.toInt ≤ 2147483647)) := by
  have c0_ : (Int32.ofInt (-1)).toInt = -1 := by decide
  have c1_ : (Int32.ofInt 0).toInt = 0 := by decide
  have c2_ : (Int32.ofInt 1).toInt = 1 := by decide
  refine pj_Y_X (M := pj_m75) rfl rfl (Nat.le_of_ble_eq_true rfl) ?_
  have hK : pj_kpt ([], [], []) G0 G0 := pj_kpt_r _ _
  show pj_X _ _ G0 0 [(0, .ref 39)] [] _
  refine pj_X_of (fun r h => pj_R_to (G0, 4, [(2, .int (Int32.ofInt 0)), (1, .int (Int32.ofInt 0)), (0, .ref 39)], [], 0, 0) 4 5 (fun _ => rfl) h) ?_
  exact pj_X_sub [(2, .int (Int32.ofInt 0)), (0, .ref 39), (1, .int (Int32.ofInt 0))] (show List.Nodup [2, 0, 1] by decide) ⟨rfl, rfl, rfl, trivial⟩ ((lp_ct_75_39 G0 hI   7) (Int32.ofInt 0) (Int32.ofInt 0) ⟨by omega, by omega⟩ (pj_i32 _) (by omega))
theorem ct_80 (G0 : pj_G) (hI : pj_Inv G0) : pj_Y 1 80 [.ref 2] G0 (fun v G' => ∃ y : Int32, v = some (.int y) ∧ G0 = G' ∧ ((-1 : Int) ≤ y.toInt ∧ y.toInt ≤ 255) ∧ (0 ≤ y.toInt → (pj_fi G0 2 3).toInt < (pj_fi G0 2 2).toInt ∧ (pj_fi G0 2 3).toInt ≤ 79)) := by
  have c0_ : (Int32.ofInt (-1)).toInt = -1 := by decide
  refine pj_Y_X (M := pj_m80) rfl rfl (Nat.le_of_ble_eq_true rfl) ?_
  have hK : pj_kpt ([], [], []) G0 G0 := pj_kpt_r _ _
  show pj_X _ _ G0 0 [(0, .ref 2)] [] _
  refine pj_X_of (fun r h => pj_R_to (G0, 1, [(0, .ref 2)], [.ref 2], 0, 0) 1 2 (fun _ => rfl) h) ?_
  refine pj_X_of (fun r h => pj_T_gi hI rfl rfl h) ?_
  show pj_X _ _ G0 4 [(0, .ref 2)] [.int (pj_fi G0 2 4)] _
  obtain ⟨y1, hy1⟩ : ∃ z : Int32, z = pj_fi G0 2 4 := ⟨_, rfl⟩
  rw [← hy1]
  have ey1 : (pj_fi G0 2 4).toInt = y1.toInt := by rw [hy1]
  have ry1 : (-1 : Int) ≤ y1.toInt ∧ y1.toInt ≤ 80 := by rw [hy1]; exact hI.2.1 2 4 (-1, 80) rfl
  refine pj_X_of (fun r h => pj_R_to (G0, 5, [(0, .ref 2)], [.int (Int32.ofInt (-1)), .int y1], 0, 0) 5 2 (fun _ => rfl) h) ?_
  cases b2 : pj_c1 .ne y1 (Int32.ofInt (-1)) with
  | true =>
    have ub2 := pj_u_neT b2
    refine pj_X_of (fun r h => pj_R_icT 31 rfl rfl b2 h) ?_
    refine pj_X_of (fun r h => pj_R_to (G0, 32, [(0, .ref 2)], [.int (Int32.ofInt (-1))], 0, 0) 32 2 (fun _ => rfl) h) ?_
    exact pj_X_rt rfl rfl ⟨_, rfl, rfl, ⟨by omega, by omega⟩, by omega⟩
  | false =>
    have ub2 := pj_u_neF b2
    refine pj_X_of (fun r h => pj_R_icF rfl b2 h) ?_
    refine pj_X_of (fun r h => pj_R_to (G0, 9, [(0, .ref 2)], [.ref 2], 0, 0) 9 2 (fun _ => rfl) h) ?_
    refine pj_X_of (fun r h => pj_T_gi hI rfl rfl h) ?_
    show pj_X _ _ G0 12 [(0, .ref 2)] [.int (pj_fi G0 2 3)] _
    obtain ⟨y3, hy3⟩ : ∃ z : Int32, z = pj_fi G0 2 3 := ⟨_, rfl⟩
    rw [← hy3]
    have ey3 : (pj_fi G0 2 3).toInt = y3.toInt := by rw [hy3]
    have ry3 : (0 : Int) ≤ y3.toInt ∧ y3.toInt ≤ 80 := by rw [hy3]; exact hI.2.1 2 3 (0, 80) rfl
    refine pj_X_of (fun r h => pj_R_to (G0, 13, [(0, .ref 2)], [.ref 2, .int y3], 0, 0) 13 2 (fun _ => rfl) h) ?_
    refine pj_X_of (fun r h => pj_T_gi hI rfl rfl h) ?_
    show pj_X _ _ G0 16 [(0, .ref 2)] [.int (pj_fi G0 2 2), .int y3] _
    obtain ⟨y4, hy4⟩ : ∃ z : Int32, z = pj_fi G0 2 2 := ⟨_, rfl⟩
    rw [← hy4]
    have ey4 : (pj_fi G0 2 2).toInt = y4.toInt := by rw [hy4]
    have ry4 : (0 : Int) ≤ y4.toInt ∧ y4.toInt ≤ 80 := by rw [hy4]; exact hI.2.1 2 2 (0, 80) rfl
    cases b5 : pj_c1 .ge y3 y4 with
    | true =>
      have ub5 := pj_u_geT b5
      refine pj_X_of (fun r h => pj_R_icT 31 rfl rfl b5 h) ?_
      refine pj_X_of (fun r h => pj_R_to (G0, 32, [(0, .ref 2)], [.int (Int32.ofInt (-1))], 0, 0) 32 2 (fun _ => rfl) h) ?_
      exact pj_X_rt rfl rfl ⟨_, rfl, rfl, ⟨by omega, by omega⟩, by omega⟩
    | false =>
      have ub5 := pj_u_geF b5
      refine pj_X_of (fun r h => pj_R_icF rfl b5 h) ?_
      refine pj_X_of (fun r h => pj_R_to (G0, 20, [(0, .ref 2)], [.ref 2], 0, 0) 20 2 (fun _ => rfl) h) ?_
      refine pj_X_of (fun r h => pj_T_gr hI rfl rfl rfl h) ?_
      refine pj_X_of (fun r h => pj_R_to (G0, 24, [(0, .ref 2)], [.ref 2, .ref 3], 0, 0) 24 2 (fun _ => rfl) h) ?_
      refine pj_X_of (fun r h => pj_T_gi hI rfl rfl h) ?_
      show pj_X _ _ G0 27 [(0, .ref 2)] [.int (pj_fi G0 2 3), .ref 3] _
      rw [show pj_fi G0 2 3 = y3 from hy3.symm]
      refine pj_X_of (fun r h => pj_T_il hI rfl rfl (by omega) (by omega) h) ?_
      show pj_X _ _ G0 28 [(0, .ref 2)] [.int (pj_ai G0 3 y3.toInt.toNat)] _
      obtain ⟨z6, hz6⟩ : ∃ z : Int32, z = pj_ai G0 3 y3.toInt.toNat := ⟨_, rfl⟩
      rw [← hz6]
      have ez6 : (pj_ai G0 3 y3.toInt.toNat).toInt = z6.toInt := by rw [hz6]
      have fz6_0 : (0 : Int) ≤ z6.toInt ∧ z6.toInt ≤ 255 ∧ (z6.toInt ≤ 0 ∨ 0 ≤ z6.toInt) := by rw [hz6]; exact hI.2.2.1 3 (80, 0, 255, 0, 0) rfl _ (by show _ < 80; omega)
      refine pj_X_of (fun r h => pj_R_to (G0, 32, [(0, .ref 2)], [.int z6], 0, 0) 32 2 (fun _ => rfl) h) ?_
      exact pj_X_rt rfl rfl ⟨_, rfl, rfl, ⟨by omega, by omega⟩, by omega⟩
def kc_81 : pj_KT := ([(2, 4)], [2], [])
theorem ct_81 (G0 : pj_G) (hI : pj_Inv G0) : pj_Y 1 81 [.ref 2] G0 (fun v G' => v = none ∧ pj_Inv G' ∧ pj_kpt kc_81 G0 G' ∧ ((pj_fi G' 2 4).toInt ≠ -1)) := by
  have c0_ : (Int32.ofInt (-1)).toInt = -1 := by decide
  refine pj_Y_X (M := pj_m81) rfl rfl (Nat.le_of_ble_eq_true rfl) ?_
  have hK : pj_kpt kc_81 G0 G0 := pj_kpt_r _ _
  show pj_X _ _ G0 0 [(0, .ref 2)] [] _
  obtain ⟨y1, hy1⟩ : ∃ z : Int32, z = pj_fi G0 2 4 := ⟨_, rfl⟩
  have ey1 : (pj_fi G0 2 4).toInt = y1.toInt := by rw [hy1]
  have ry1 : (-1 : Int) ≤ y1.toInt ∧ y1.toInt ≤ 80 := by rw [hy1]; exact hI.2.1 2 4 (-1, 80) rfl
  refine pj_X_of (fun r h => pj_R_to (G0, 1, [(0, .ref 2)], [.ref 2], 0, 0) 1 2 (fun _ => rfl) h) ?_
  refine pj_X_of (fun r h => pj_T_gi hI rfl rfl h) ?_
  show pj_X _ _ G0 4 [(0, .ref 2)] [.int (pj_fi G0 2 4)] _
  rw [show pj_fi G0 2 4 = y1 from hy1.symm]
  refine pj_X_of (fun r h => pj_R_to (G0, 5, [(0, .ref 2)], [.int (Int32.ofInt (-1)), .int y1], 0, 0) 5 2 (fun _ => rfl) h) ?_
  cases b2 : pj_c1 .ne y1 (Int32.ofInt (-1)) with
  | true =>
    have ub2 := pj_u_neT b2
    refine pj_X_of (fun r h => pj_R_icT 16 rfl rfl b2 h) ?_
    have q3 : (pj_fi G0 2 4).toInt = y1.toInt := by rw [show pj_fi G0 2 4 = y1 from hy1.symm]
    exact pj_X_rt rfl rfl ⟨rfl, hI, hK, by omega⟩
  | false =>
    have ub2 := pj_u_neF b2
    refine pj_X_of (fun r h => pj_R_icF rfl b2 h) ?_
    refine pj_X_of (fun r h => pj_R_to (G0, 10, [(0, .ref 2)], [.ref 2, .ref 2], 0, 0) 10 3 (fun _ => rfl) h) ?_
    refine pj_X_of (fun r h => pj_T_gi hI rfl rfl h) ?_
    show pj_X _ _ G0 13 [(0, .ref 2)] [.int (pj_fi G0 2 3), .ref 2] _
    obtain ⟨y4, hy4⟩ : ∃ z : Int32, z = pj_fi G0 2 3 := ⟨_, rfl⟩
    rw [← hy4]
    have ey4 : (pj_fi G0 2 3).toInt = y4.toInt := by rw [hy4]
    have ry4 : (0 : Int) ≤ y4.toInt ∧ y4.toInt ≤ 80 := by rw [hy4]; exact hI.2.1 2 3 (0, 80) rfl
    refine pj_X_of (fun r h => pj_T_pf hI rfl rfl rfl h) ?_
    show pj_X _ _ (pj_wv G0 2 4 (.int y4)) 16 [(0, .ref 2)] [] _
    obtain ⟨G5, hG5⟩ : ∃ H, H = pj_wv G0 2 4 (.int y4) := ⟨_, rfl⟩
    have iG5 : pj_Inv G5 := by rw [hG5]; exact pj_Inv_wi hI (ci := 9) rfl (fun q hq => by cases hq; exact ⟨by show (-1 : Int) ≤ _; omega, by show _ ≤ (80 : Int); omega⟩)
    have kG5 : pj_kpt kc_81 G0 G5 := by rw [hG5]; exact pj_kpt_v hK rfl
    rw [← hG5]
    have q6 : (pj_fi G5 2 4).toInt = y4.toInt := by rw [show pj_fi G5 2 4 = y4 from by rw [hG5]; exact pj_fi_wi hI.1 (ci := 9) rfl _]
    exact pj_X_rt rfl rfl ⟨rfl, iG5, kG5, by omega⟩
def kc_78 : pj_KT := ([(2, 1)], [2], [])
theorem ct_78 (G0 : pj_G) (hI : pj_Inv G0) (n : Int32) : pj_Y 1 78 [.ref 2, .int n] G0 (fun v G' => ∃ y : Int32, v = some (.int y) ∧ pj_Inv G' ∧ pj_kpt kc_78 G0 G' ∧ ((0 : Int) ≤ y.toInt ∧ y.toInt ≤ 1)) := by
  have c0_ : (Int32.ofInt 0).toInt = 0 := by decide
  have c1_ : (Int32.ofInt 1).toInt = 1 := by decide
  refine pj_Y_X (M := pj_m78) rfl rfl (Nat.le_of_ble_eq_true rfl) ?_
  have hK : pj_kpt kc_78 G0 G0 := pj_kpt_r _ _
  show pj_X _ _ G0 0 [(0, .ref 2), (1, .int n)] [] _
  refine pj_X_of (fun r h => pj_R_to (G0, 1, [(0, .ref 2), (1, .int n)], [.int n], 0, 0) 1 2 (fun _ => rfl) h) ?_
  cases b1 : pj_c1 .lt n 0 with
  | true =>
    have ub1 := pj_u0_ltT b1
    refine pj_X_of (fun r h => pj_R_ifT 12 rfl rfl b1 h) ?_
    refine pj_X_of (fun r h => pj_R_to (G0, 13, [(0, .ref 2), (1, .int n)], [.int (Int32.ofInt 0)], 0, 0) 13 2 (fun _ => rfl) h) ?_
    exact pj_X_rt rfl rfl ⟨_, rfl, hI, hK, ⟨by omega, by omega⟩⟩
  | false =>
    have ub1 := pj_u0_ltF b1
    refine pj_X_of (fun r h => pj_R_ifF rfl b1 h) ?_
    refine pj_X_of (fun r h => pj_R_to (G0, 6, [(0, .ref 2), (1, .int n)], [.ref 2, .int n], 0, 0) 6 3 (fun _ => rfl) h) ?_
    refine pj_X_of (fun r h => pj_T_gi hI rfl rfl h) ?_
    show pj_X _ _ G0 9 [(0, .ref 2), (1, .int n)] [.int (pj_fi G0 2 1), .int n] _
    obtain ⟨y2, hy2⟩ : ∃ z : Int32, z = pj_fi G0 2 1 := ⟨_, rfl⟩
    rw [← hy2]
    have ey2 : (pj_fi G0 2 1).toInt = y2.toInt := by rw [hy2]
    have ry2 : (0 : Int) ≤ y2.toInt ∧ y2.toInt ≤ 80 := by rw [hy2]; exact hI.2.1 2 1 (0, 80) rfl
    cases b3 : pj_c1 .le n y2 with
    | true =>
      have ub3 := pj_u_leT b3
      refine pj_X_of (fun r h => pj_R_icT 14 rfl rfl b3 h) ?_
      refine pj_X_of (fun r h => pj_R_to (G0, 16, [(0, .ref 2), (1, .int n)], [.int n, .ref 2], 0, 0) 16 3 (fun _ => rfl) h) ?_
      refine pj_X_of (fun r h => pj_T_pf hI rfl rfl rfl h) ?_
      show pj_X _ _ (pj_wv G0 2 1 (.int n)) 19 [(0, .ref 2), (1, .int n)] [] _
      obtain ⟨G4, hG4⟩ : ∃ H, H = pj_wv G0 2 1 (.int n) := ⟨_, rfl⟩
      have iG4 : pj_Inv G4 := by rw [hG4]; exact pj_Inv_wi hI (ci := 9) rfl (fun q hq => by cases hq; exact ⟨by show (0 : Int) ≤ _; omega, by show _ ≤ (80 : Int); omega⟩)
      have kG4 : pj_kpt kc_78 G0 G4 := by rw [hG4]; exact pj_kpt_v hK rfl
      rw [← hG4]
      refine pj_X_of (fun r h => pj_R_to (G4, 20, [(0, .ref 2), (1, .int n)], [.int (Int32.ofInt 1)], 0, 0) 20 2 (fun _ => rfl) h) ?_
      exact pj_X_rt rfl rfl ⟨_, rfl, iG4, kG4, ⟨by omega, by omega⟩⟩
    | false =>
      have ub3 := pj_u_leF b3
      refine pj_X_of (fun r h => pj_R_icF rfl b3 h) ?_
      refine pj_X_of (fun r h => pj_R_to (G0, 13, [(0, .ref 2), (1, .int n)], [.int (Int32.ofInt 0)], 0, 0) 13 2 (fun _ => rfl) h) ?_
      exact pj_X_rt rfl rfl ⟨_, rfl, hI, hK, ⟨by omega, by omega⟩⟩
def kc_79 : pj_KT := ([(2, 2), (2, 3), (2, 4)], [2], [])
theorem ct_79 (G0 : pj_G) (hI : pj_Inv G0) (n : Int32) (rn : (0 : Int) ≤ n.toInt ∧ n.toInt ≤ 80) : pj_Y 1 79 [.ref 2, .int n] G0 (fun v G' => v = none ∧ pj_Inv G' ∧ pj_kpt kc_79 G0 G') := by
  have c0_ : (Int32.ofInt (-1)).toInt = -1 := by decide
  have c1_ : (Int32.ofInt 0).toInt = 0 := by decide
  refine pj_Y_X (M := pj_m79) rfl rfl (Nat.le_of_ble_eq_true rfl) ?_
  have hK : pj_kpt kc_79 G0 G0 := pj_kpt_r _ _
  show pj_X _ _ G0 0 [(0, .ref 2), (1, .int n)] [] _
  refine pj_X_of (fun r h => pj_R_to (G0, 3, [(0, .ref 2), (1, .int n)], [.ref 2, .int n, .ref 2], 0, 0) 3 4 (fun _ => rfl) h) ?_
  refine pj_X_of (fun r h => pj_T_gi hI rfl rfl h) ?_
  show pj_X _ _ G0 6 [(0, .ref 2), (1, .int n)] [.int (pj_fi G0 2 1), .int n, .ref 2] _
  obtain ⟨y1, hy1⟩ : ∃ z : Int32, z = pj_fi G0 2 1 := ⟨_, rfl⟩
  rw [← hy1]
  have ey1 : (pj_fi G0 2 1).toInt = y1.toInt := by rw [hy1]
  have ry1 : (0 : Int) ≤ y1.toInt ∧ y1.toInt ≤ 80 := by rw [hy1]; exact hI.2.1 2 1 (0, 80) rfl
  refine pj_X_of (fun r h => pj_R_mn (v := (if y1 < n then y1 else n)) rfl rfl rfl (Nat.le_of_ble_eq_true rfl) h) ?_
  show pj_X _ _ G0 9 [(0, .ref 2), (1, .int n)] [.int (if y1 < n then y1 else n), .ref 2] _
  obtain ⟨z2, hz2⟩ : ∃ z : Int32, z = (if y1 < n then y1 else n) := ⟨_, rfl⟩
  rw [← hz2]
  have fz2_0 : z2.toInt ≤ n.toInt ∧ z2.toInt ≤ y1.toInt ∧ (z2.toInt = n.toInt ∨ z2.toInt = y1.toInt) := by rw [hz2]; exact pj_minI
  refine pj_X_of (fun r h => pj_T_pf hI rfl rfl rfl h) ?_
  show pj_X _ _ (pj_wv G0 2 2 (.int z2)) 12 [(0, .ref 2), (1, .int n)] [] _
  obtain ⟨G3, hG3⟩ : ∃ H, H = pj_wv G0 2 2 (.int z2) := ⟨_, rfl⟩
  have iG3 : pj_Inv G3 := by rw [hG3]; exact pj_Inv_wi hI (ci := 9) rfl (fun q hq => by cases hq; exact ⟨by show (0 : Int) ≤ _; omega, by show _ ≤ (80 : Int); omega⟩)
  have kG3 : pj_kpt kc_79 G0 G3 := by rw [hG3]; exact pj_kpt_v hK rfl
  rw [← hG3]
  refine pj_X_of (fun r h => pj_R_to (G3, 14, [(0, .ref 2), (1, .int n)], [.int (Int32.ofInt 0), .ref 2], 0, 0) 14 3 (fun _ => rfl) h) ?_
  refine pj_X_of (fun r h => pj_T_pf iG3 rfl rfl rfl h) ?_
  show pj_X _ _ (pj_wv G3 2 3 (.int (Int32.ofInt 0))) 17 [(0, .ref 2), (1, .int n)] [] _
  obtain ⟨G4, hG4⟩ : ∃ H, H = pj_wv G3 2 3 (.int (Int32.ofInt 0)) := ⟨_, rfl⟩
  have iG4 : pj_Inv G4 := by rw [hG4]; exact pj_Inv_wi iG3 (ci := 9) rfl (fun q hq => by cases hq; exact ⟨by show (0 : Int) ≤ _; omega, by show _ ≤ (80 : Int); omega⟩)
  have kG4 : pj_kpt kc_79 G0 G4 := by rw [hG4]; exact pj_kpt_v kG3 rfl
  rw [← hG4]
  refine pj_X_of (fun r h => pj_R_to (G4, 19, [(0, .ref 2), (1, .int n)], [.int (Int32.ofInt (-1)), .ref 2], 0, 0) 19 3 (fun _ => rfl) h) ?_
  refine pj_X_of (fun r h => pj_T_pf iG4 rfl rfl rfl h) ?_
  show pj_X _ _ (pj_wv G4 2 4 (.int (Int32.ofInt (-1)))) 22 [(0, .ref 2), (1, .int n)] [] _
  obtain ⟨G5, hG5⟩ : ∃ H, H = pj_wv G4 2 4 (.int (Int32.ofInt (-1))) := ⟨_, rfl⟩
  have iG5 : pj_Inv G5 := by rw [hG5]; exact pj_Inv_wi iG4 (ci := 9) rfl (fun q hq => by cases hq; exact ⟨by show (-1 : Int) ≤ _; omega, by show _ ≤ (80 : Int); omega⟩)
  have kG5 : pj_kpt kc_79 G0 G5 := by rw [hG5]; exact pj_kpt_v kG4 rfl
  rw [← hG5]
  exact pj_X_rt rfl rfl ⟨rfl, iG5, kG5⟩
def kc_82 : pj_KT := ([(2, 3)], [2], [])
theorem ct_82 (G0 : pj_G) (hI : pj_Inv G0) (g : Int32) (rg : (0 : Int) ≤ g.toInt ∧ g.toInt ≤ 255) : pj_Y 2 82 [.ref 2, .int g] G0 (fun v G' => ∃ y : Int32, v = some (.int y) ∧ pj_Inv G' ∧ pj_kpt kc_82 G0 G' ∧ ((0 : Int) ≤ y.toInt ∧ y.toInt ≤ 1)) := by
  have c0_ : (Int32.ofInt 0).toInt = 0 := by decide
  have c1_ : (Int32.ofInt 1).toInt = 1 := by decide
  refine pj_Y_X (M := pj_m82) rfl rfl (Nat.le_of_ble_eq_true rfl) ?_
  have hK : pj_kpt kc_82 G0 G0 := pj_kpt_r _ _
  show pj_X _ _ G0 0 [(0, .ref 2), (1, .int g)] [] _
  refine pj_X_of (fun r h => pj_R_to (G0, 1, [(0, .ref 2), (1, .int g)], [.ref 2], 0, 0) 1 2 (fun _ => rfl) h) ?_
  refine pj_X_ca (vs := [.ref 2]) rfl (fun _ => rfl) ⟨Nat.le_of_ble_eq_true rfl, Nat.le_of_ble_eq_true rfl, pj_T_rcv hI rfl⟩ ⟨rfl, rfl⟩ (pj_Y_up (by decide) (ct_80 G0 hI)) ?_
  rintro _ _ ⟨y1, rfl, rfl, ry1, ey1⟩
  show pj_X _ _ G0 4 [(0, .ref 2), (1, .int g)] [.int y1] _
  refine pj_X_of (fun r h => pj_R_to (G0, 5, [(0, .ref 2), (1, .int g)], [.int g, .int y1], 0, 0) 5 2 (fun _ => rfl) h) ?_
  cases b2 : pj_c1 .eq y1 g with
  | true =>
    have ub2 := pj_u_eqT b2
    refine pj_X_of (fun r h => pj_R_icT 10 rfl rfl b2 h) ?_
    refine pj_X_of (fun r h => pj_R_to (G0, 12, [(0, .ref 2), (1, .int g)], [.ref 2, .ref 2], 0, 0) 12 3 (fun _ => rfl) h) ?_
    refine pj_X_of (fun r h => pj_T_gi hI rfl rfl h) ?_
    show pj_X _ _ G0 15 [(0, .ref 2), (1, .int g)] [.int (pj_fi G0 2 3), .ref 2] _
    obtain ⟨y3, hy3⟩ : ∃ z : Int32, z = pj_fi G0 2 3 := ⟨_, rfl⟩
    rw [← hy3]
    have ey3 : (pj_fi G0 2 3).toInt = y3.toInt := by rw [hy3]
    have ry3 : (0 : Int) ≤ y3.toInt ∧ y3.toInt ≤ 80 := by rw [hy3]; exact hI.2.1 2 3 (0, 80) rfl
    refine pj_X_of (fun r h => pj_R_to (G0, 17, [(0, .ref 2), (1, .int g)], [.int (y3 + (Int32.ofInt 1)), .ref 2], 0, 0) 17 3 (fun _ => rfl) h) ?_
    obtain ⟨z4, hz4⟩ : ∃ z : Int32, z = y3 + (Int32.ofInt 1) := ⟨_, rfl⟩
    rw [← hz4]
    have fz4_0 : z4.toInt = y3.toInt + (Int32.ofInt 1).toInt := by rw [hz4]; exact pj_addI (by have := pj_i32 y3; have := pj_i32 (Int32.ofInt 1); omega) (by have := pj_i32 y3; have := pj_i32 (Int32.ofInt 1); omega)
    refine pj_X_of (fun r h => pj_T_pf hI rfl rfl rfl h) ?_
    show pj_X _ _ (pj_wv G0 2 3 (.int z4)) 20 [(0, .ref 2), (1, .int g)] [] _
    obtain ⟨G5, hG5⟩ : ∃ H, H = pj_wv G0 2 3 (.int z4) := ⟨_, rfl⟩
    have iG5 : pj_Inv G5 := by rw [hG5]; exact pj_Inv_wi hI (ci := 9) rfl (fun q hq => by cases hq; exact ⟨by show (0 : Int) ≤ _; omega, by show _ ≤ (80 : Int); omega⟩)
    have kG5 : pj_kpt kc_82 G0 G5 := by rw [hG5]; exact pj_kpt_v hK rfl
    rw [← hG5]
    refine pj_X_of (fun r h => pj_R_to (G5, 21, [(0, .ref 2), (1, .int g)], [.int (Int32.ofInt 1)], 0, 0) 21 2 (fun _ => rfl) h) ?_
    exact pj_X_rt rfl rfl ⟨_, rfl, iG5, kG5, ⟨by omega, by omega⟩⟩
  | false =>
    have ub2 := pj_u_eqF b2
    refine pj_X_of (fun r h => pj_R_icF rfl b2 h) ?_
    refine pj_X_of (fun r h => pj_R_to (G0, 9, [(0, .ref 2), (1, .int g)], [.int (Int32.ofInt 0)], 0, 0) 9 2 (fun _ => rfl) h) ?_
    exact pj_X_rt rfl rfl ⟨_, rfl, hI, hK, ⟨by omega, by omega⟩⟩
def kc_83 : pj_KT := ([(2, 3), (2, 4)], [2], [])
theorem ct_83 (G0 : pj_G) (hI : pj_Inv G0) (lo : Int32) (hi : Int32) (rlo : (0 : Int) ≤ lo.toInt ∧ lo.toInt ≤ 255) (rhi : (-1 : Int) ≤ hi.toInt ∧ hi.toInt ≤ 255) : pj_Y 2 83 [.ref 2, .int lo, .int hi] G0 (fun v G' => ∃ y : Int32, v = some (.int y) ∧ pj_Inv G' ∧ pj_kpt kc_83 G0 G' ∧ ((0 : Int) ≤ y.toInt ∧ y.toInt ≤ 255) ∧ ((y.toInt = 0 ∨ y.toInt ≤ hi.toInt - lo.toInt) ∧ ((pj_fi G0 2 4).toInt ≠ -1 → (pj_fi G' 2 4).toInt ≠ -1))) := by
  have c0_ : (Int32.ofInt 0).toInt = 0 := by decide
  have c1_ : (Int32.ofInt 1).toInt = 1 := by decide
  refine pj_Y_X (M := pj_m83) rfl rfl (Nat.le_of_ble_eq_true rfl) ?_
  have hK : pj_kpt kc_83 G0 G0 := pj_kpt_r _ _
  show pj_X _ _ G0 0 [(0, .ref 2), (1, .int lo), (2, .int hi)] [] _
  obtain ⟨y1, hy1⟩ : ∃ z : Int32, z = pj_fi G0 2 4 := ⟨_, rfl⟩
  have ey1 : (pj_fi G0 2 4).toInt = y1.toInt := by rw [hy1]
  have ry1 : (-1 : Int) ≤ y1.toInt ∧ y1.toInt ≤ 80 := by rw [hy1]; exact hI.2.1 2 4 (-1, 80) rfl
  refine pj_X_of (fun r h => pj_R_to (G0, 1, [(0, .ref 2), (1, .int lo), (2, .int hi)], [.ref 2], 0, 0) 1 2 (fun _ => rfl) h) ?_
  have q2 : (pj_fi G0 2 4).toInt = y1.toInt := by rw [show pj_fi G0 2 4 = y1 from hy1.symm]
  refine pj_X_ca (vs := [.ref 2]) rfl (fun _ => rfl) ⟨Nat.le_of_ble_eq_true rfl, Nat.le_of_ble_eq_true rfl, pj_T_rcv hI rfl⟩ ⟨rfl, rfl⟩ (pj_Y_up (by decide) (ct_80 G0 hI)) ?_
  rintro _ _ ⟨y3, rfl, rfl, ry3, ey3⟩
  show pj_X _ _ G0 4 [(0, .ref 2), (1, .int lo), (2, .int hi)] [.int y3] _
  refine pj_X_of (fun r h => pj_R_to (G0, 7, [(3, .int y3), (0, .ref 2), (1, .int lo), (2, .int hi)], [.int lo, .int y3], 0, 0) 7 4 (fun _ => rfl) h) ?_
  cases b4 : pj_c1 .lt y3 lo with
  | true =>
    have ub4 := pj_u_ltT b4
    refine pj_X_of (fun r h => pj_R_icT 15 rfl rfl b4 h) ?_
    refine pj_X_of (fun r h => pj_R_to (G0, 16, [(3, .int y3), (0, .ref 2), (1, .int lo), (2, .int hi)], [.ref 2], 0, 0) 16 2 (fun _ => rfl) h) ?_
    have q5 : (pj_fi G0 2 4).toInt = y1.toInt := by rw [show pj_fi G0 2 4 = y1 from hy1.symm]
    refine pj_X_ca (vs := [.ref 2]) rfl (fun _ => rfl) ⟨Nat.le_of_ble_eq_true rfl, Nat.le_of_ble_eq_true rfl, pj_T_rcv hI rfl⟩ ⟨rfl, rfl⟩ (pj_Y_up (by decide) (ct_81 G0 hI)) ?_
    rintro _ G7 ⟨rfl, iG7, jG7, eG7⟩
    have kG7 : pj_kpt kc_83 G0 G7 := pj_kpt_t hK (pj_kpt_s jG7 rfl)
    obtain ⟨y8, hy8⟩ : ∃ z : Int32, z = pj_fi G7 2 4 := ⟨_, rfl⟩
    have ey8 : (pj_fi G7 2 4).toInt = y8.toInt := by rw [hy8]
    have ry8 : (-1 : Int) ≤ y8.toInt ∧ y8.toInt ≤ 80 := by rw [hy8]; exact iG7.2.1 2 4 (-1, 80) rfl
    show pj_X _ _ G7 19 [(3, .int y3), (0, .ref 2), (1, .int lo), (2, .int hi)] [] _
    refine pj_X_of (fun r h => pj_R_to (G7, 20, [(3, .int y3), (0, .ref 2), (1, .int lo), (2, .int hi)], [.int (Int32.ofInt 0)], 0, 0) 20 2 (fun _ => rfl) h) ?_
    have q9 : (pj_fi G7 2 4).toInt = y8.toInt := by rw [show pj_fi G7 2 4 = y8 from hy8.symm]
    exact pj_X_rt rfl rfl ⟨_, rfl, iG7, kG7, ⟨by omega, by omega⟩, ⟨by omega, by omega⟩⟩
  | false =>
    have ub4 := pj_u_ltF b4
    refine pj_X_of (fun r h => pj_R_icF rfl b4 h) ?_
    refine pj_X_of (fun r h => pj_R_to (G0, 12, [(3, .int y3), (0, .ref 2), (1, .int lo), (2, .int hi)], [.int hi, .int y3], 0, 0) 12 3 (fun _ => rfl) h) ?_
    cases b10 : pj_c1 .le y3 hi with
    | true =>
      have ub10 := pj_u_leT b10
      refine pj_X_of (fun r h => pj_R_icT 21 rfl rfl b10 h) ?_
      refine pj_X_of (fun r h => pj_R_to (G0, 23, [(3, .int y3), (0, .ref 2), (1, .int lo), (2, .int hi)], [.ref 2, .ref 2], 0, 0) 23 3 (fun _ => rfl) h) ?_
      refine pj_X_of (fun r h => pj_T_gi hI rfl rfl h) ?_
      show pj_X _ _ G0 26 [(3, .int y3), (0, .ref 2), (1, .int lo), (2, .int hi)] [.int (pj_fi G0 2 3), .ref 2] _
      obtain ⟨y11, hy11⟩ : ∃ z : Int32, z = pj_fi G0 2 3 := ⟨_, rfl⟩
      rw [← hy11]
      have ey11 : (pj_fi G0 2 3).toInt = y11.toInt := by rw [hy11]
      have ry11 : (0 : Int) ≤ y11.toInt ∧ y11.toInt ≤ 80 := by rw [hy11]; exact hI.2.1 2 3 (0, 80) rfl
      refine pj_X_of (fun r h => pj_R_to (G0, 28, [(3, .int y3), (0, .ref 2), (1, .int lo), (2, .int hi)], [.int (y11 + (Int32.ofInt 1)), .ref 2], 0, 0) 28 3 (fun _ => rfl) h) ?_
      obtain ⟨z12, hz12⟩ : ∃ z : Int32, z = y11 + (Int32.ofInt 1) := ⟨_, rfl⟩
      rw [← hz12]
      have fz12_0 : z12.toInt = y11.toInt + (Int32.ofInt 1).toInt := by rw [hz12]; exact pj_addI (by have := pj_i32 y11; have := pj_i32 (Int32.ofInt 1); omega) (by have := pj_i32 y11; have := pj_i32 (Int32.ofInt 1); omega)
      refine pj_X_of (fun r h => pj_T_pf hI rfl rfl rfl h) ?_
      show pj_X _ _ (pj_wv G0 2 3 (.int z12)) 31 [(3, .int y3), (0, .ref 2), (1, .int lo), (2, .int hi)] [] _
      obtain ⟨G13, hG13⟩ : ∃ H, H = pj_wv G0 2 3 (.int z12) := ⟨_, rfl⟩
      have iG13 : pj_Inv G13 := by rw [hG13]; exact pj_Inv_wi hI (ci := 9) rfl (fun q hq => by cases hq; exact ⟨by show (0 : Int) ≤ _; omega, by show _ ≤ (80 : Int); omega⟩)
      have kG13 : pj_kpt kc_83 G0 G13 := by rw [hG13]; exact pj_kpt_v hK rfl
      rw [← hG13]
      refine pj_X_of (fun r h => pj_R_to (G13, 34, [(3, .int y3), (0, .ref 2), (1, .int lo), (2, .int hi)], [.int (y3 - lo)], 0, 0) 34 4 (fun _ => rfl) h) ?_
      obtain ⟨z14, hz14⟩ : ∃ z : Int32, z = y3 - lo := ⟨_, rfl⟩
      rw [← hz14]
      have fz14_0 : z14.toInt = y3.toInt - lo.toInt := by rw [hz14]; exact pj_subI (by have := pj_i32 y3; have := pj_i32 lo; omega) (by have := pj_i32 y3; have := pj_i32 lo; omega)
      have q15 : (pj_fi G13 2 4).toInt = y1.toInt := by rw [show pj_fi G13 2 4 = y1 from by rw [hG13, pj_fi_wv_ne _ _ _ _ _ _ (by decide)]; exact hy1.symm]
      exact pj_X_rt rfl rfl ⟨_, rfl, iG13, kG13, ⟨by omega, by omega⟩, ⟨by omega, by omega⟩⟩
    | false =>
      have ub10 := pj_u_leF b10
      refine pj_X_of (fun r h => pj_R_icF rfl b10 h) ?_
      refine pj_X_of (fun r h => pj_R_to (G0, 16, [(3, .int y3), (0, .ref 2), (1, .int lo), (2, .int hi)], [.ref 2], 0, 0) 16 2 (fun _ => rfl) h) ?_
      have q16 : (pj_fi G0 2 4).toInt = y1.toInt := by rw [show pj_fi G0 2 4 = y1 from hy1.symm]
      refine pj_X_ca (vs := [.ref 2]) rfl (fun _ => rfl) ⟨Nat.le_of_ble_eq_true rfl, Nat.le_of_ble_eq_true rfl, pj_T_rcv hI rfl⟩ ⟨rfl, rfl⟩ (pj_Y_up (by decide) (ct_81 G0 hI)) ?_
      rintro _ G18 ⟨rfl, iG18, jG18, eG18⟩
      have kG18 : pj_kpt kc_83 G0 G18 := pj_kpt_t hK (pj_kpt_s jG18 rfl)
      obtain ⟨y19, hy19⟩ : ∃ z : Int32, z = pj_fi G18 2 4 := ⟨_, rfl⟩
      have ey19 : (pj_fi G18 2 4).toInt = y19.toInt := by rw [hy19]
      have ry19 : (-1 : Int) ≤ y19.toInt ∧ y19.toInt ≤ 80 := by rw [hy19]; exact iG18.2.1 2 4 (-1, 80) rfl
      show pj_X _ _ G18 19 [(3, .int y3), (0, .ref 2), (1, .int lo), (2, .int hi)] [] _
      refine pj_X_of (fun r h => pj_R_to (G18, 20, [(3, .int y3), (0, .ref 2), (1, .int lo), (2, .int hi)], [.int (Int32.ofInt 0)], 0, 0) 20 2 (fun _ => rfl) h) ?_
      have q20 : (pj_fi G18 2 4).toInt = y19.toInt := by rw [show pj_fi G18 2 4 = y19 from hy19.symm]
      exact pj_X_rt rfl rfl ⟨_, rfl, iG18, kG18, ⟨by omega, by omega⟩, ⟨by omega, by omega⟩⟩
theorem ct_85 (G0 : pj_G) (hI : pj_Inv G0) : pj_Y 2 85 [.ref 2] G0 (fun v G' => ∃ y : Int32, v = some (.int y) ∧ G0 = G' ∧ ((0 : Int) ≤ y.toInt ∧ y.toInt ≤ 1)) := by
  have c0_ : ((Int8.ofInt 48).toInt32).toInt = 48 := by decide
  have c1_ : ((Int8.ofInt 57).toInt32).toInt = 57 := by decide
  have c2_ : (Int32.ofInt 0).toInt = 0 := by decide
  have c3_ : (Int32.ofInt 1).toInt = 1 := by decide
  refine pj_Y_X (M := pj_m85) rfl rfl (Nat.le_of_ble_eq_true rfl) ?_
  have hK : pj_kpt ([], [], []) G0 G0 := pj_kpt_r _ _
  show pj_X _ _ G0 0 [(0, .ref 2)] [] _
  refine pj_X_of (fun r h => pj_R_to (G0, 1, [(0, .ref 2)], [.ref 2], 0, 0) 1 2 (fun _ => rfl) h) ?_
  refine pj_X_ca (vs := [.ref 2]) rfl (fun _ => rfl) ⟨Nat.le_of_ble_eq_true rfl, Nat.le_of_ble_eq_true rfl, pj_T_rcv hI rfl⟩ ⟨rfl, rfl⟩ (pj_Y_up (by decide) (ct_80 G0 hI)) ?_
  rintro _ _ ⟨y1, rfl, rfl, ry1, ey1⟩
  show pj_X _ _ G0 4 [(0, .ref 2)] [.int y1] _
  refine pj_X_of (fun r h => pj_R_to (G0, 6, [(0, .ref 2)], [.int ((Int8.ofInt 48).toInt32), .int y1], 0, 0) 6 2 (fun _ => rfl) h) ?_
  cases b2 : pj_c1 .lt y1 ((Int8.ofInt 48).toInt32) with
  | true =>
    have ub2 := pj_u_ltT b2
    refine pj_X_of (fun r h => pj_R_icT 22 rfl rfl b2 h) ?_
    refine pj_X_of (fun r h => pj_R_to (G0, 23, [(0, .ref 2)], [.int (Int32.ofInt 0)], 0, 0) 23 2 (fun _ => rfl) h) ?_
    exact pj_X_rt rfl rfl ⟨_, rfl, rfl, ⟨by omega, by omega⟩⟩
  | false =>
    have ub2 := pj_u_ltF b2
    refine pj_X_of (fun r h => pj_R_icF rfl b2 h) ?_
    refine pj_X_of (fun r h => pj_R_to (G0, 10, [(0, .ref 2)], [.ref 2], 0, 0) 10 2 (fun _ => rfl) h) ?_
    refine pj_X_ca (vs := [.ref 2]) rfl (fun _ => rfl) ⟨Nat.le_of_ble_eq_true rfl, Nat.le_of_ble_eq_true rfl, pj_T_rcv hI rfl⟩ ⟨rfl, rfl⟩ (pj_Y_up (by decide) (ct_80 G0 hI)) ?_
    rintro _ _ ⟨y3, rfl, rfl, ry3, ey3⟩
    show pj_X _ _ G0 13 [(0, .ref 2)] [.int y3] _
    refine pj_X_of (fun r h => pj_R_to (G0, 15, [(0, .ref 2)], [.int ((Int8.ofInt 57).toInt32), .int y3], 0, 0) 15 2 (fun _ => rfl) h) ?_
    cases b4 : pj_c1 .gt y3 ((Int8.ofInt 57).toInt32) with
    | true =>
      have ub4 := pj_u_gtT b4
      refine pj_X_of (fun r h => pj_R_icT 22 rfl rfl b4 h) ?_
      refine pj_X_of (fun r h => pj_R_to (G0, 23, [(0, .ref 2)], [.int (Int32.ofInt 0)], 0, 0) 23 2 (fun _ => rfl) h) ?_
      exact pj_X_rt rfl rfl ⟨_, rfl, rfl, ⟨by omega, by omega⟩⟩
    | false =>
      have ub4 := pj_u_gtF b4
      refine pj_X_of (fun r h => pj_R_icF rfl b4 h) ?_
      refine pj_X_of (fun r h => pj_R_to (G0, 23, [(0, .ref 2)], [.int (Int32.ofInt 1)], 0, 0) 23 3 (fun _ => rfl) h) ?_
      exact pj_X_rt rfl rfl ⟨_, rfl, rfl, ⟨by omega, by omega⟩⟩
def kc_86 : pj_KT := ([(2, 3), (2, 4)], [2], [])
theorem lp_ct_86 (G0 : pj_G) (hI0 : pj_Inv G0) (n : Int32) (rn : (1 : Int) ≤ n.toInt ∧ n.toInt ≤ 3) : ∀ mn : Nat, (∀ (G : pj_G) (hI : pj_Inv G) (hK : pj_kpt kc_86 G0 G) (i : Int32) (v : Int32), ((1 : Int) ≤ i.toInt ∧ i.toInt ≤ 3) → ((0 : Int) ≤ v.toInt ∧ v.toInt ≤ 999) → (i.toInt = 1 → v.toInt ≤ 9) → (i.toInt = 2 → v.toInt ≤ 99) → 3 - i.toInt < (mn : Int) → pj_X 2 pj_m86 G 11 [(3, .int i), (0, .ref 2), (1, .int n), (2, .int v)] [] (fun v G' => ∃ y : Int32, v = some (.int y) ∧ pj_Inv G' ∧ pj_kpt kc_86 G0 G' ∧ ((0 : Int) ≤ y.toInt ∧ y.toInt ≤ 999))) := by
  have c0_ : ((Int8.ofInt 10).toInt32).toInt = 10 := by decide
  have c1_ : ((Int8.ofInt 48).toInt32).toInt = 48 := by decide
  have c2_ : ((Int8.ofInt 57).toInt32).toInt = 57 := by decide
  have c3_ : (Int32.ofInt 1).toInt = 1 := by decide
  intro mn
  induction mn with
  | zero =>
    intro G hI hK i v ri rv x0_ x1_ hm
    exfalso
    omega
  | succ mn ih =>
    intro G hI hK i v ri rv x0_ x1_ hm
    refine pj_X_of (fun r h => pj_R_to (G, 13, [(3, .int i), (0, .ref 2), (1, .int n), (2, .int v)], [.int n, .int i], 0, 0) 13 3 (fun _ => rfl) h) ?_
    cases b1 : pj_c1 .ge i n with
    | true =>
      have ub1 := pj_u_geT b1
      refine pj_X_of (fun r h => pj_R_icT 43 rfl rfl b1 h) ?_
      refine pj_X_of (fun r h => pj_R_to (G, 44, [(3, .int i), (0, .ref 2), (1, .int n), (2, .int v)], [.int v], 0, 0) 44 2 (fun _ => rfl) h) ?_
      exact pj_X_rt rfl rfl ⟨_, rfl, hI, hK, ⟨by omega, by omega⟩⟩
    | false =>
      have ub1 := pj_u_geF b1
      refine pj_X_of (fun r h => pj_R_icF rfl b1 h) ?_
      refine pj_X_of (fun r h => pj_R_to (G, 17, [(3, .int i), (0, .ref 2), (1, .int n), (2, .int v)], [.ref 2], 0, 0) 17 2 (fun _ => rfl) h) ?_
      refine pj_X_ca (vs := [.ref 2]) rfl (fun _ => rfl) ⟨Nat.le_of_ble_eq_true rfl, Nat.le_of_ble_eq_true rfl, pj_T_rcv hI rfl⟩ ⟨rfl, rfl⟩ (pj_Y_up (by decide) (ct_85 G hI)) ?_
      rintro _ _ ⟨y2, rfl, rfl, ry2⟩
      show pj_X _ _ G 20 [(3, .int i), (0, .ref 2), (1, .int n), (2, .int v)] [.int y2] _
      cases b3 : pj_c1 .eq y2 0 with
      | true =>
        have ub3 := pj_u0_eqT b3
        refine pj_X_of (fun r h => pj_R_ifT 43 rfl rfl b3 h) ?_
        refine pj_X_of (fun r h => pj_R_to (G, 44, [(3, .int i), (0, .ref 2), (1, .int n), (2, .int v)], [.int v], 0, 0) 44 2 (fun _ => rfl) h) ?_
        exact pj_X_rt rfl rfl ⟨_, rfl, hI, hK, ⟨by omega, by omega⟩⟩
      | false =>
        have ub3 := pj_u0_eqF b3
        refine pj_X_of (fun r h => pj_R_ifF rfl b3 h) ?_
        refine pj_X_of (fun r h => pj_R_to (G, 27, [(3, .int i), (0, .ref 2), (1, .int n), (2, .int v)], [.int (v * ((Int8.ofInt 10).toInt32))], 0, 0) 27 4 (fun _ => rfl) h) ?_
        obtain ⟨z4, hz4⟩ : ∃ z : Int32, z = v * ((Int8.ofInt 10).toInt32) := ⟨_, rfl⟩
        rw [← hz4]
        have fz4_0 : z4.toInt = 10 * v.toInt := by rw [hz4]; exact pj_mulR (by decide) (by omega) (by omega)
        refine pj_X_of (fun r h => pj_R_to (G, 32, [(3, .int i), (0, .ref 2), (1, .int n), (2, .int v)], [.int ((Int8.ofInt 57).toInt32), .int ((Int8.ofInt 48).toInt32), .ref 2, .int z4], 0, 0) 32 4 (fun _ => rfl) h) ?_
        refine pj_X_ca (vs := [.ref 2, .int ((Int8.ofInt 48).toInt32), .int ((Int8.ofInt 57).toInt32)]) rfl (fun _ => rfl) ⟨Nat.le_of_ble_eq_true rfl, Nat.le_of_ble_eq_true rfl, pj_T_rcv hI rfl⟩ ⟨rfl, rfl⟩ (pj_Y_up (by decide) (ct_83 G hI ((Int8.ofInt 48).toInt32) ((Int8.ofInt 57).toInt32) ⟨by omega, by omega⟩ ⟨by omega, by omega⟩)) ?_
        rintro _ G6 ⟨y5, rfl, iG6, jG6, ry5, ey5⟩
        have kG6 : pj_kpt kc_86 G0 G6 := pj_kpt_t hK (pj_kpt_s jG6 rfl)
        show pj_X _ _ G6 35 [(3, .int i), (0, .ref 2), (1, .int n), (2, .int v)] [.int y5, .int z4] _
        refine pj_X_of (fun r h => pj_R_to (G6, 36, [(3, .int i), (0, .ref 2), (1, .int n), (2, .int v)], [.int (z4 + y5)], 0, 0) 36 2 (fun _ => rfl) h) ?_
        obtain ⟨z7, hz7⟩ : ∃ z : Int32, z = z4 + y5 := ⟨_, rfl⟩
        rw [← hz7]
        have fz7_0 : z7.toInt = z4.toInt + y5.toInt := by rw [hz7]; exact pj_addI (by have := pj_i32 z4; have := pj_i32 y5; omega) (by have := pj_i32 z4; have := pj_i32 y5; omega)
        refine pj_X_of (fun r h => pj_R_to (G6, 40, [(3, .int (i + Int32.ofInt 1)), (2, .int z7), (0, .ref 2), (1, .int n)], [], 0, 0) 40 3 (fun _ => rfl) h) ?_
        obtain ⟨z8, hz8⟩ : ∃ z : Int32, z = i + Int32.ofInt 1 := ⟨_, rfl⟩
        rw [← hz8]
        have fz8_0 : z8.toInt = i.toInt + (Int32.ofInt 1).toInt := by rw [hz8]; exact pj_addI (by have := pj_i32 i; have := pj_i32 (Int32.ofInt 1); omega) (by have := pj_i32 i; have := pj_i32 (Int32.ofInt 1); omega)
        refine pj_X_of (fun r h => pj_R_to (G6, 11, [(3, .int z8), (2, .int z7), (0, .ref 2), (1, .int n)], [], 0, 0) 11 2 (fun _ => rfl) h) ?_
        exact pj_X_sub [(3, .int z8), (0, .ref 2), (1, .int n), (2, .int z7)] (show List.Nodup [3, 0, 1, 2] by decide) ⟨rfl, rfl, rfl, rfl, trivial⟩ (ih G6 iG6 kG6 z8 z7 ⟨by omega, by omega⟩ ⟨by omega, by omega⟩ (by omega) (by omega) (by omega))
theorem ct_86 (G0 : pj_G) (hI : pj_Inv G0) (n : Int32) (rn : (1 : Int) ≤ n.toInt ∧ n.toInt ≤ 3) : pj_Y 3 86 [.ref 2, .int n] G0 (fun v G' => ∃ y : Int32, v = some (.int y) ∧ pj_Inv G' ∧ pj_kpt kc_86 G0 G' ∧ ((0 : Int) ≤ y.toInt ∧ y.toInt ≤ 999)) := by
  have c0_ : ((Int8.ofInt 10).toInt32).toInt = 10 := by decide
  have c1_ : ((Int8.ofInt 48).toInt32).toInt = 48 := by decide
  have c2_ : ((Int8.ofInt 57).toInt32).toInt = 57 := by decide
  have c3_ : (Int32.ofInt 1).toInt = 1 := by decide
  refine pj_Y_X (M := pj_m86) rfl rfl (Nat.le_of_ble_eq_true rfl) ?_
  have hK : pj_kpt kc_86 G0 G0 := pj_kpt_r _ _
  show pj_X _ _ G0 0 [(0, .ref 2), (1, .int n)] [] _
  refine pj_X_of (fun r h => pj_R_to (G0, 5, [(0, .ref 2), (1, .int n)], [.int ((Int8.ofInt 57).toInt32), .int ((Int8.ofInt 48).toInt32), .ref 2], 0, 0) 5 4 (fun _ => rfl) h) ?_
  refine pj_X_ca (vs := [.ref 2, .int ((Int8.ofInt 48).toInt32), .int ((Int8.ofInt 57).toInt32)]) rfl (fun _ => rfl) ⟨Nat.le_of_ble_eq_true rfl, Nat.le_of_ble_eq_true rfl, pj_T_rcv hI rfl⟩ ⟨rfl, rfl⟩ (pj_Y_up (by decide) (ct_83 G0 hI ((Int8.ofInt 48).toInt32) ((Int8.ofInt 57).toInt32) ⟨by omega, by omega⟩ ⟨by omega, by omega⟩)) ?_
  rintro _ G10 ⟨y9, rfl, iG10, jG10, ry9, ey9⟩
  have kG10 : pj_kpt kc_86 G0 G10 := pj_kpt_t hK (pj_kpt_s jG10 rfl)
  show pj_X _ _ G10 8 [(0, .ref 2), (1, .int n)] [.int y9] _
  refine pj_X_of (fun r h => pj_R_to (G10, 11, [(3, .int (Int32.ofInt 1)), (2, .int y9), (0, .ref 2), (1, .int n)], [], 0, 0) 11 4 (fun _ => rfl) h) ?_
  exact pj_X_sub [(3, .int (Int32.ofInt 1)), (0, .ref 2), (1, .int n), (2, .int y9)] (show List.Nodup [3, 0, 1, 2] by decide) ⟨rfl, rfl, rfl, rfl, trivial⟩ ((lp_ct_86 G0 hI n rn 4) G10 iG10 kG10 (Int32.ofInt 1) y9 ⟨by omega, by omega⟩ ⟨by omega, by omega⟩ (by omega) (by omega) (by omega))
def kc_88 : pj_KT := ([(2, 1), (2, 4)], [2], [])
theorem ct_88 (G0 : pj_G) (hI : pj_Inv G0) : pj_Y 2 88 [.ref 2] G0 (fun v G' => ∃ y : Int32, v = some (.int y) ∧ pj_Inv G' ∧ pj_kpt kc_88 G0 G' ∧ ((-1 : Int) ≤ y.toInt ∧ y.toInt ≤ 80) ∧ (y.toInt = -1 → (pj_fi G0 2 4).toInt = -1)) := by
  have c0_ : (Int32.ofInt 0).toInt = 0 := by decide
  refine pj_Y_X (M := pj_m88) rfl rfl (Nat.le_of_ble_eq_true rfl) ?_
  have hK : pj_kpt kc_88 G0 G0 := pj_kpt_r _ _
  show pj_X _ _ G0 0 [(0, .ref 2)] [] _
  obtain ⟨y1, hy1⟩ : ∃ z : Int32, z = pj_fi G0 2 4 := ⟨_, rfl⟩
  have ey1 : (pj_fi G0 2 4).toInt = y1.toInt := by rw [hy1]
  have ry1 : (-1 : Int) ≤ y1.toInt ∧ y1.toInt ≤ 80 := by rw [hy1]; exact hI.2.1 2 4 (-1, 80) rfl
  refine pj_X_of (fun r h => pj_R_to (G0, 1, [(0, .ref 2)], [.ref 2], 0, 0) 1 2 (fun _ => rfl) h) ?_
  refine pj_X_of (fun r h => pj_T_gi hI rfl rfl h) ?_
  show pj_X _ _ G0 4 [(0, .ref 2)] [.int (pj_fi G0 2 3)] _
  obtain ⟨y2, hy2⟩ : ∃ z : Int32, z = pj_fi G0 2 3 := ⟨_, rfl⟩
  rw [← hy2]
  have ey2 : (pj_fi G0 2 3).toInt = y2.toInt := by rw [hy2]
  have ry2 : (0 : Int) ≤ y2.toInt ∧ y2.toInt ≤ 80 := by rw [hy2]; exact hI.2.1 2 3 (0, 80) rfl
  refine pj_X_of (fun r h => pj_R_to (G0, 5, [(0, .ref 2)], [.ref 2, .int y2], 0, 0) 5 2 (fun _ => rfl) h) ?_
  refine pj_X_of (fun r h => pj_T_gi hI rfl rfl h) ?_
  show pj_X _ _ G0 8 [(0, .ref 2)] [.int (pj_fi G0 2 1), .int y2] _
  obtain ⟨y3, hy3⟩ : ∃ z : Int32, z = pj_fi G0 2 1 := ⟨_, rfl⟩
  rw [← hy3]
  have ey3 : (pj_fi G0 2 1).toInt = y3.toInt := by rw [hy3]
  have ry3 : (0 : Int) ≤ y3.toInt ∧ y3.toInt ≤ 80 := by rw [hy3]; exact hI.2.1 2 1 (0, 80) rfl
  cases b4 : pj_c1 .ge y2 y3 with
  | true =>
    have ub4 := pj_u_geT b4
    refine pj_X_of (fun r h => pj_R_icT 15 rfl rfl b4 h) ?_
    refine pj_X_of (fun r h => pj_R_to (G0, 17, [(0, .ref 2)], [.int (Int32.ofInt 0), .ref 2], 0, 0) 17 3 (fun _ => rfl) h) ?_
    refine pj_X_of (fun r h => pj_T_pf hI rfl rfl rfl h) ?_
    show pj_X _ _ (pj_wv G0 2 1 (.int (Int32.ofInt 0))) 20 [(0, .ref 2)] [] _
    obtain ⟨G5, hG5⟩ : ∃ H, H = pj_wv G0 2 1 (.int (Int32.ofInt 0)) := ⟨_, rfl⟩
    have iG5 : pj_Inv G5 := by rw [hG5]; exact pj_Inv_wi hI (ci := 9) rfl (fun q hq => by cases hq; exact ⟨by show (0 : Int) ≤ _; omega, by show _ ≤ (80 : Int); omega⟩)
    have kG5 : pj_kpt kc_88 G0 G5 := by rw [hG5]; exact pj_kpt_v hK rfl
    rw [← hG5]
    refine pj_X_of (fun r h => pj_R_to (G5, 21, [(0, .ref 2)], [.ref 2], 0, 0) 21 2 (fun _ => rfl) h) ?_
    refine pj_X_of (fun r h => pj_T_gi iG5 rfl rfl h) ?_
    show pj_X _ _ G5 24 [(0, .ref 2)] [.int (pj_fi G5 2 4)] _
    rw [show pj_fi G5 2 4 = y1 from by rw [hG5, pj_fi_wv_ne _ _ _ _ _ _ (by decide)]; exact hy1.symm]
    have q6 : (pj_fi G5 2 4).toInt = y1.toInt := by rw [show pj_fi G5 2 4 = y1 from by rw [hG5, pj_fi_wv_ne _ _ _ _ _ _ (by decide)]; exact hy1.symm]
    exact pj_X_rt rfl rfl ⟨_, rfl, iG5, kG5, ⟨by omega, by omega⟩, by omega⟩
  | false =>
    have ub4 := pj_u_geF b4
    refine pj_X_of (fun r h => pj_R_icF rfl b4 h) ?_
    refine pj_X_of (fun r h => pj_R_to (G0, 12, [(0, .ref 2)], [.ref 2], 0, 0) 12 2 (fun _ => rfl) h) ?_
    have q7 : (pj_fi G0 2 4).toInt = y1.toInt := by rw [show pj_fi G0 2 4 = y1 from hy1.symm]
    refine pj_X_ca (vs := [.ref 2]) rfl (fun _ => rfl) ⟨Nat.le_of_ble_eq_true rfl, Nat.le_of_ble_eq_true rfl, pj_T_rcv hI rfl⟩ ⟨rfl, rfl⟩ (pj_Y_up (by decide) (ct_81 G0 hI)) ?_
    rintro _ G9 ⟨rfl, iG9, jG9, eG9⟩
    have kG9 : pj_kpt kc_88 G0 G9 := pj_kpt_t hK (pj_kpt_s jG9 rfl)
    obtain ⟨y10, hy10⟩ : ∃ z : Int32, z = pj_fi G9 2 4 := ⟨_, rfl⟩
    have ey10 : (pj_fi G9 2 4).toInt = y10.toInt := by rw [hy10]
    have ry10 : (-1 : Int) ≤ y10.toInt ∧ y10.toInt ≤ 80 := by rw [hy10]; exact iG9.2.1 2 4 (-1, 80) rfl
    show pj_X _ _ G9 15 [(0, .ref 2)] [] _
    refine pj_X_of (fun r h => pj_R_to (G9, 17, [(0, .ref 2)], [.int (Int32.ofInt 0), .ref 2], 0, 0) 17 3 (fun _ => rfl) h) ?_
    refine pj_X_of (fun r h => pj_T_pf iG9 rfl rfl rfl h) ?_
    show pj_X _ _ (pj_wv G9 2 1 (.int (Int32.ofInt 0))) 20 [(0, .ref 2)] [] _
    obtain ⟨G11, hG11⟩ : ∃ H, H = pj_wv G9 2 1 (.int (Int32.ofInt 0)) := ⟨_, rfl⟩
    have iG11 : pj_Inv G11 := by rw [hG11]; exact pj_Inv_wi iG9 (ci := 9) rfl (fun q hq => by cases hq; exact ⟨by show (0 : Int) ≤ _; omega, by show _ ≤ (80 : Int); omega⟩)
    have kG11 : pj_kpt kc_88 G0 G11 := by rw [hG11]; exact pj_kpt_v kG9 rfl
    rw [← hG11]
    refine pj_X_of (fun r h => pj_R_to (G11, 21, [(0, .ref 2)], [.ref 2], 0, 0) 21 2 (fun _ => rfl) h) ?_
    refine pj_X_of (fun r h => pj_T_gi iG11 rfl rfl h) ?_
    show pj_X _ _ G11 24 [(0, .ref 2)] [.int (pj_fi G11 2 4)] _
    rw [show pj_fi G11 2 4 = y10 from by rw [hG11, pj_fi_wv_ne _ _ _ _ _ _ (by decide)]; exact hy10.symm]
    have q12 : (pj_fi G11 2 4).toInt = y10.toInt := by rw [show pj_fi G11 2 4 = y10 from by rw [hG11, pj_fi_wv_ne _ _ _ _ _ _ (by decide)]; exact hy10.symm]
    exact pj_X_rt rfl rfl ⟨_, rfl, iG11, kG11, ⟨by omega, by omega⟩, by omega⟩
def kc_53x : pj_KT := ([(4, 1)], [4], [])
noncomputable def F_53x (G0 : pj_G) : pj_G := pj_nm (pj_wv G0 4 1 (.int (Int32.ofInt 0))) (fun G1 => G1)
theorem F_53x_e (G0 : pj_G) : F_53x G0 = pj_nm (pj_wv G0 4 1 (.int (Int32.ofInt 0))) (fun G1 => G1) := rfl
theorem ct_53x (G0 : pj_G) (hI : pj_Inv G0) : pj_Y 1 53 [.ref 4] G0 (fun v' G' => v' = none ∧ pj_Inv G' ∧ pj_kpt kc_53x G0 G' ∧ (G' = F_53x G0)) := by
  have c0_ : (Int32.ofInt 0).toInt = 0 := by decide
  refine pj_Y_X (M := pj_m53) rfl rfl (Nat.le_of_ble_eq_true rfl) ?_
  have hK : pj_kpt kc_53x G0 G0 := pj_kpt_r _ _
  show pj_X _ _ G0 0 [(0, .ref 4)] [] _
  rw [F_53x_e]
  refine pj_X_of (fun r h => pj_R_to (G0, 2, [(0, .ref 4)], [.int (Int32.ofInt 0), .ref 4], 0, 0) 2 3 (fun _ => rfl) h) ?_
  refine pj_X_of (fun r h => pj_T_pf hI rfl rfl rfl h) ?_
  show pj_X _ _ (pj_wv G0 4 1 (.int (Int32.ofInt 0))) 5 [(0, .ref 4)] [] _
  obtain ⟨G1, hG1⟩ : ∃ H, H = pj_wv G0 4 1 (.int (Int32.ofInt 0)) := ⟨_, rfl⟩
  have iG1 : pj_Inv G1 := by rw [hG1]; exact pj_Inv_wi hI (ci := 6) rfl (fun q hq => by cases hq; exact ⟨by show (0 : Int) ≤ _; omega, by show _ ≤ (10 : Int); omega⟩)
  have kG1 : pj_kpt kc_53x G0 G1 := by rw [hG1]; exact pj_kpt_v hK rfl
  rw [← hG1]
  rw [pj_nm_e]
  exact pj_X_rt rfl rfl ⟨rfl, iG1, kG1, rfl⟩
theorem fr_53x (G0 : pj_G) (hI : pj_Inv G0) : pj_Inv (F_53x G0) ∧ pj_kpt kc_53x G0 (F_53x G0) := by
  obtain ⟨v, G', -, -, i, j, e⟩ := ct_53x G0 hI 
  rw [← e]
  exact ⟨i, j⟩
def kc_54x : pj_KT := ([(4, 1)], [4, 5], [])
noncomputable def F_54x (G0 : pj_G) (w : Int64) : pj_G := pj_nm (pj_fi G0 4 1) (fun y1 => cond (pj_c1 .ge y1 (Int32.ofNat 10)) (G0) (pj_nm (pj_wl G0 5 y1.toInt.toNat w) (fun G3 => pj_nm (y1 + (Int32.ofInt 1)) (fun z4 => pj_nm (pj_wv G3 4 1 (.int z4)) (fun G5 => G5)))))
theorem F_54x_e (G0 : pj_G) (w : Int64) : F_54x G0 w = pj_nm (pj_fi G0 4 1) (fun y1 => cond (pj_c1 .ge y1 (Int32.ofNat 10)) (G0) (pj_nm (pj_wl G0 5 y1.toInt.toNat w) (fun G3 => pj_nm (y1 + (Int32.ofInt 1)) (fun z4 => pj_nm (pj_wv G3 4 1 (.int z4)) (fun G5 => G5))))) := rfl
theorem ct_54x (G0 : pj_G) (hI : pj_Inv G0) (w : Int64) : pj_Y 1 54 [.ref 4, .long w] G0 (fun v' G' => v' = none ∧ pj_Inv G' ∧ pj_kpt kc_54x G0 G' ∧ (G' = F_54x G0 w)) := by
  have c0_ : (Int32.ofInt 1).toInt = 1 := by decide
  have c1_ : (Int32.ofNat 10).toInt = 10 := by decide
  refine pj_Y_X (M := pj_m54) rfl rfl (Nat.le_of_ble_eq_true rfl) ?_
  have hK : pj_kpt kc_54x G0 G0 := pj_kpt_r _ _
  show pj_X _ _ G0 0 [(0, .ref 4), (1, .long w)] [] _
  rw [F_54x_e]
  refine pj_X_of (fun r h => pj_R_to (G0, 1, [(0, .ref 4), (1, .long w)], [.ref 4], 0, 0) 1 2 (fun _ => rfl) h) ?_
  refine pj_X_of (fun r h => pj_T_gi hI rfl rfl h) ?_
  show pj_X _ _ G0 4 [(0, .ref 4), (1, .long w)] [.int (pj_fi G0 4 1)] _
  obtain ⟨y1, hy1⟩ : ∃ z : Int32, z = pj_fi G0 4 1 := ⟨_, rfl⟩
  rw [← hy1]
  rw [pj_nm_e]
  have ey1 : (pj_fi G0 4 1).toInt = y1.toInt := by rw [hy1]
  have ry1 : (0 : Int) ≤ y1.toInt ∧ y1.toInt ≤ 10 := by rw [hy1]; exact hI.2.1 4 1 (0, 10) rfl
  refine pj_X_of (fun r h => pj_R_to (G0, 5, [(0, .ref 4), (1, .long w)], [.ref 4, .int y1], 0, 0) 5 2 (fun _ => rfl) h) ?_
  refine pj_X_of (fun r h => pj_T_gr hI rfl rfl rfl h) ?_
  refine pj_X_of (fun r h => pj_T_al hI rfl rfl (by decide) h) ?_
  cases b2 : pj_c1 .ge y1 (Int32.ofNat 10) with
  | true =>
    rw [pj_cT]
    have ub2 := pj_u_geT b2
    refine pj_X_of (fun r h => pj_R_icT 32 rfl rfl b2 h) ?_
    exact pj_X_rt rfl rfl ⟨rfl, hI, hK, rfl⟩
  | false =>
    rw [pj_cF]
    have ub2 := pj_u_geF b2
    refine pj_X_of (fun r h => pj_R_icF rfl b2 h) ?_
    refine pj_X_of (fun r h => pj_R_to (G0, 13, [(0, .ref 4), (1, .long w)], [.ref 4], 0, 0) 13 2 (fun _ => rfl) h) ?_
    refine pj_X_of (fun r h => pj_T_gr hI rfl rfl rfl h) ?_
    refine pj_X_of (fun r h => pj_R_to (G0, 17, [(0, .ref 4), (1, .long w)], [.ref 4, .ref 5], 0, 0) 17 2 (fun _ => rfl) h) ?_
    refine pj_X_of (fun r h => pj_T_gi hI rfl rfl h) ?_
    show pj_X _ _ G0 20 [(0, .ref 4), (1, .long w)] [.int (pj_fi G0 4 1), .ref 5] _
    rw [show pj_fi G0 4 1 = y1 from hy1.symm]
    refine pj_X_of (fun r h => pj_R_to (G0, 21, [(0, .ref 4), (1, .long w)], [.long w, .int y1, .ref 5], 0, 0) 21 2 (fun _ => rfl) h) ?_
    refine pj_X_of (fun r h => pj_T_ls hI rfl rfl (by omega) (by omega) h) ?_
    show pj_X _ _ (pj_wl G0 5 y1.toInt.toNat w) 22 [(0, .ref 4), (1, .long w)] [] _
    obtain ⟨G3, hG3⟩ : ∃ H, H = pj_wl G0 5 y1.toInt.toNat w := ⟨_, rfl⟩
    have iG3 : pj_Inv G3 := by rw [hG3]; exact pj_Inv_wl hI rfl
    have kG3 : pj_kpt kc_54x G0 G3 := by rw [hG3]; exact pj_kpt_l hK rfl
    rw [← hG3]
    rw [pj_nm_e]
    refine pj_X_of (fun r h => pj_R_to (G3, 24, [(0, .ref 4), (1, .long w)], [.ref 4, .ref 4], 0, 0) 24 3 (fun _ => rfl) h) ?_
    refine pj_X_of (fun r h => pj_T_gi iG3 rfl rfl h) ?_
    show pj_X _ _ G3 27 [(0, .ref 4), (1, .long w)] [.int (pj_fi G3 4 1), .ref 4] _
    rw [show pj_fi G3 4 1 = y1 from by rw [hG3, pj_fi_wl]; exact hy1.symm]
    refine pj_X_of (fun r h => pj_R_to (G3, 29, [(0, .ref 4), (1, .long w)], [.int (y1 + (Int32.ofInt 1)), .ref 4], 0, 0) 29 3 (fun _ => rfl) h) ?_
    obtain ⟨z4, hz4⟩ : ∃ z : Int32, z = y1 + (Int32.ofInt 1) := ⟨_, rfl⟩
    rw [← hz4]
    rw [pj_nm_e]
    have fz4_0 : z4.toInt = y1.toInt + (Int32.ofInt 1).toInt := by rw [hz4]; exact pj_addI (by have := pj_i32 y1; have := pj_i32 (Int32.ofInt 1); omega) (by have := pj_i32 y1; have := pj_i32 (Int32.ofInt 1); omega)
    refine pj_X_of (fun r h => pj_T_pf iG3 rfl rfl rfl h) ?_
    show pj_X _ _ (pj_wv G3 4 1 (.int z4)) 32 [(0, .ref 4), (1, .long w)] [] _
    obtain ⟨G5, hG5⟩ : ∃ H, H = pj_wv G3 4 1 (.int z4) := ⟨_, rfl⟩
    have iG5 : pj_Inv G5 := by rw [hG5]; exact pj_Inv_wi iG3 (ci := 6) rfl (fun q hq => by cases hq; exact ⟨by show (0 : Int) ≤ _; omega, by show _ ≤ (10 : Int); omega⟩)
    have kG5 : pj_kpt kc_54x G0 G5 := by rw [hG5]; exact pj_kpt_v kG3 rfl
    rw [← hG5]
    rw [pj_nm_e]
    exact pj_X_rt rfl rfl ⟨rfl, iG5, kG5, rfl⟩
theorem fr_54x (G0 : pj_G) (hI : pj_Inv G0) (w : Int64) : pj_Inv (F_54x G0 w) ∧ pj_kpt kc_54x G0 (F_54x G0 w) := by
  obtain ⟨v, G', -, -, i, j, e⟩ := ct_54x G0 hI w
  rw [← e]
  exact ⟨i, j⟩
def kc_55x : pj_KT := ([(4, 1)], [4, 5], [])
noncomputable def F_55x (G0 : pj_G) (w : Int64) : pj_G := pj_nm (F_53x G0) (fun G2 => pj_nm (F_54x G2 w) (fun G4 => G4))
theorem F_55x_e (G0 : pj_G) (w : Int64) : F_55x G0 w = pj_nm (F_53x G0) (fun G2 => pj_nm (F_54x G2 w) (fun G4 => G4)) := rfl
theorem ct_55x (G0 : pj_G) (hI : pj_Inv G0) (w : Int64) : pj_Y 2 55 [.ref 4, .long w] G0 (fun v' G' => v' = none ∧ pj_Inv G' ∧ pj_kpt kc_55x G0 G' ∧ (G' = F_55x G0 w)) := by
  refine pj_Y_X (M := pj_m55) rfl rfl (Nat.le_of_ble_eq_true rfl) ?_
  have hK : pj_kpt kc_55x G0 G0 := pj_kpt_r _ _
  show pj_X _ _ G0 0 [(0, .ref 4), (1, .long w)] [] _
  rw [F_55x_e]
  refine pj_X_of (fun r h => pj_R_to (G0, 1, [(0, .ref 4), (1, .long w)], [.ref 4], 0, 0) 1 2 (fun _ => rfl) h) ?_
  refine pj_X_ca (vs := [.ref 4]) rfl (fun _ => rfl) ⟨Nat.le_of_ble_eq_true rfl, Nat.le_of_ble_eq_true rfl, pj_T_rcv hI rfl⟩ ⟨rfl, rfl⟩ (pj_Y_up (by decide) (ct_53x G0 hI)) ?_
  rintro _ G2 ⟨rfl, iG2, jG2, fy1⟩
  rw [← fy1, pj_nm_e]
  have kG2 : pj_kpt kc_55x G0 G2 := pj_kpt_t hK (pj_kpt_s jG2 rfl)
  show pj_X _ _ G2 4 [(0, .ref 4), (1, .long w)] [] _
  refine pj_X_of (fun r h => pj_R_to (G2, 6, [(0, .ref 4), (1, .long w)], [.long w, .ref 4], 0, 0) 6 3 (fun _ => rfl) h) ?_
  refine pj_X_ca (vs := [.ref 4, .long w]) rfl (fun _ => rfl) ⟨Nat.le_of_ble_eq_true rfl, Nat.le_of_ble_eq_true rfl, pj_T_rcv iG2 rfl⟩ ⟨rfl, rfl⟩ (pj_Y_up (by decide) (ct_54x G2 iG2 w)) ?_
  rintro _ G4 ⟨rfl, iG4, jG4, fy3⟩
  rw [← fy3, pj_nm_e]
  have kG4 : pj_kpt kc_55x G0 G4 := pj_kpt_t kG2 (pj_kpt_s jG4 rfl)
  show pj_X _ _ G4 9 [(0, .ref 4), (1, .long w)] [] _
  exact pj_X_rt rfl rfl ⟨rfl, iG4, kG4, rfl⟩
theorem fr_55x (G0 : pj_G) (hI : pj_Inv G0) (w : Int64) : pj_Inv (F_55x G0 w) ∧ pj_kpt kc_55x G0 (F_55x G0 w) := by
  obtain ⟨v, G', -, -, i, j, e⟩ := ct_55x G0 hI w
  rw [← e]
  exact ⟨i, j⟩
def kc_56x : pj_KT := ([(4, 1)], [4, 5], [])
noncomputable def F_56x (G0 : pj_G) (w : Int64) (u : Int64) : pj_G := pj_nm (F_53x G0) (fun G2 => pj_nm (F_54x G2 w) (fun G4 => pj_nm (F_54x G4 u) (fun G6 => G6)))
theorem F_56x_e (G0 : pj_G) (w : Int64) (u : Int64) : F_56x G0 w u = pj_nm (F_53x G0) (fun G2 => pj_nm (F_54x G2 w) (fun G4 => pj_nm (F_54x G4 u) (fun G6 => G6))) := rfl
theorem ct_56x (G0 : pj_G) (hI : pj_Inv G0) (w : Int64) (u : Int64) : pj_Y 2 56 [.ref 4, .long w, .long u] G0 (fun v' G' => v' = none ∧ pj_Inv G' ∧ pj_kpt kc_56x G0 G' ∧ (G' = F_56x G0 w u)) := by
  refine pj_Y_X (M := pj_m56) rfl rfl (Nat.le_of_ble_eq_true rfl) ?_
  have hK : pj_kpt kc_56x G0 G0 := pj_kpt_r _ _
  show pj_X _ _ G0 0 [(0, .ref 4), (1, .long w), (3, .long u)] [] _
  rw [F_56x_e]
  refine pj_X_of (fun r h => pj_R_to (G0, 1, [(0, .ref 4), (1, .long w), (3, .long u)], [.ref 4], 0, 0) 1 2 (fun _ => rfl) h) ?_
  refine pj_X_ca (vs := [.ref 4]) rfl (fun _ => rfl) ⟨Nat.le_of_ble_eq_true rfl, Nat.le_of_ble_eq_true rfl, pj_T_rcv hI rfl⟩ ⟨rfl, rfl⟩ (pj_Y_up (by decide) (ct_53x G0 hI)) ?_
  rintro _ G2 ⟨rfl, iG2, jG2, fy1⟩
  rw [← fy1, pj_nm_e]
  have kG2 : pj_kpt kc_56x G0 G2 := pj_kpt_t hK (pj_kpt_s jG2 rfl)
  show pj_X _ _ G2 4 [(0, .ref 4), (1, .long w), (3, .long u)] [] _
  refine pj_X_of (fun r h => pj_R_to (G2, 6, [(0, .ref 4), (1, .long w), (3, .long u)], [.long w, .ref 4], 0, 0) 6 3 (fun _ => rfl) h) ?_
  refine pj_X_ca (vs := [.ref 4, .long w]) rfl (fun _ => rfl) ⟨Nat.le_of_ble_eq_true rfl, Nat.le_of_ble_eq_true rfl, pj_T_rcv iG2 rfl⟩ ⟨rfl, rfl⟩ (pj_Y_up (by decide) (ct_54x G2 iG2 w)) ?_
  rintro _ G4 ⟨rfl, iG4, jG4, fy3⟩
  rw [← fy3, pj_nm_e]
  have kG4 : pj_kpt kc_56x G0 G4 := pj_kpt_t kG2 (pj_kpt_s jG4 rfl)
  show pj_X _ _ G4 9 [(0, .ref 4), (1, .long w), (3, .long u)] [] _
  refine pj_X_of (fun r h => pj_R_to (G4, 11, [(0, .ref 4), (1, .long w), (3, .long u)], [.long u, .ref 4], 0, 0) 11 3 (fun _ => rfl) h) ?_
  refine pj_X_ca (vs := [.ref 4, .long u]) rfl (fun _ => rfl) ⟨Nat.le_of_ble_eq_true rfl, Nat.le_of_ble_eq_true rfl, pj_T_rcv iG4 rfl⟩ ⟨rfl, rfl⟩ (pj_Y_up (by decide) (ct_54x G4 iG4 u)) ?_
  rintro _ G6 ⟨rfl, iG6, jG6, fy5⟩
  rw [← fy5, pj_nm_e]
  have kG6 : pj_kpt kc_56x G0 G6 := pj_kpt_t kG4 (pj_kpt_s jG6 rfl)
  show pj_X _ _ G6 14 [(0, .ref 4), (1, .long w), (3, .long u)] [] _
  exact pj_X_rt rfl rfl ⟨rfl, iG6, kG6, rfl⟩
theorem fr_56x (G0 : pj_G) (hI : pj_Inv G0) (w : Int64) (u : Int64) : pj_Inv (F_56x G0 w u) ∧ pj_kpt kc_56x G0 (F_56x G0 w u) := by
  obtain ⟨v, G', -, -, i, j, e⟩ := ct_56x G0 hI w u
  rw [← e]
  exact ⟨i, j⟩
