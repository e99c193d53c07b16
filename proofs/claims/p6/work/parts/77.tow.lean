/-! LOOKUP SWITCHES -/
def pj_lne (x : Int) : List (Int × Int) → Prop
  | [] => True
  | q :: t => ¬ q.1 = x ∧ pj_lne x t
theorem pj_lkd {x d : Int} : ∀ l : List (Int × Int), pj_lne x l → Op.lookupswitch.offset l d x = d
  | [], _ => rfl
  | (a, o) :: t, h => by
    rw [Op.lookupswitch.offset_cons, if_neg h.1]
    exact pj_lkd t h.2
theorem pj_R_lw {C : Nat → pj_F} {n0 : Nat} {xs : Nat → Int32} {M : pj_M} {r : Option Value × pj_G × Nat × Nat} {G : pj_G} {pc mc ms : Nat} {L : pj_L} {S : List Value} {dflt : Int} {ps : Array (Int × Int)} {len : Nat} {inf : List Nat} {z : Int} {x : Int32} (tgt : Nat) (hf : pj_find M.2.2.2.2.2 pc = some (.lookupswitch dflt ps, len, inf, z)) {n : Int} (hx : x.toInt = n) (hk : (if 0 ≤ (pc : Int) + Op.lookupswitch.offset ps.toList dflt n then some ((pc : Int) + Op.lookupswitch.offset ps.toList dflt n).toNat else none) = some tgt) (h2 : pj_R C n0 xs M (G, tgt, L, S, mc, ms) r) : pj_R C n0 xs M (G, pc, L, .int x :: S, mc, ms) r := by
  refine pj_R_st (t' := (G, tgt, L, S, 0, 0)) hf (fun call => ?_) h2
  show (if 0 ≤ (pc : Int) + Op.lookupswitch.offset ps.toList dflt x.toInt then some (((pc : Int) + Op.lookupswitch.offset ps.toList dflt x.toInt).toNat, S) else none).map (fun r => ((G, r.1, L, r.2, 0, 0) : pj_T)) = _
  rw [hx]
  split at hk
  · rename_i h
    rw [if_pos h]
    cases hk
    rfl
  · cases hk
theorem pj_R_ld {C : Nat → pj_F} {n0 : Nat} {xs : Nat → Int32} {M : pj_M} {r : Option Value × pj_G × Nat × Nat} {G : pj_G} {pc mc ms : Nat} {L : pj_L} {S : List Value} {dflt : Int} {ps : Array (Int × Int)} {len : Nat} {inf : List Nat} {z : Int} {x : Int32} (tgt : Nat) (hf : pj_find M.2.2.2.2.2 pc = some (.lookupswitch dflt ps, len, inf, z)) (hx : pj_lne x.toInt ps.toList) (hk : (if 0 ≤ (pc : Int) + dflt then some ((pc : Int) + dflt).toNat else none) = some tgt) (h2 : pj_R C n0 xs M (G, tgt, L, S, mc, ms) r) : pj_R C n0 xs M (G, pc, L, .int x :: S, mc, ms) r := by
  refine pj_R_st (t' := (G, tgt, L, S, 0, 0)) hf (fun call => ?_) h2
  show (if 0 ≤ (pc : Int) + Op.lookupswitch.offset ps.toList dflt x.toInt then some (((pc : Int) + Op.lookupswitch.offset ps.toList dflt x.toInt).toNat, S) else none).map (fun r => ((G, r.1, L, r.2, 0, 0) : pj_T)) = _
  rw [pj_lkd _ hx]
  split at hk
  · rename_i h
    rw [if_pos h]
    cases hk
    rfl
  · cases hk
theorem ct_66 (G0 : pj_G) (hI : pj_Inv G0) (g : Int32) (a : Int32) (b : Int32) : pj_Y 1 66 [.int g, .int a, .int b] G0 (fun v G' => ∃ y : Int32, v = some (.int y) ∧ G0 = G' ∧ ((-2147483648 : Int) ≤ y.toInt ∧ y.toInt ≤ 2147483647)) := by
  have c0_ : (Int32.ofInt 0).toInt = 0 := by decide
  have c1_ : (Int32.ofInt 1).toInt = 1 := by decide
  refine pj_Y_X (M := pj_m66) rfl rfl (Nat.le_of_ble_eq_true rfl) ?_
  have hK : pj_kpt ([], [], []) G0 G0 := pj_kpt_r _ _
  show pj_X _ _ G0 0 [(0, .int g), (1, .int a), (2, .int b)] [] _
  refine pj_X_of (fun r h => pj_R_to (G0, 1, [(0, .int g), (1, .int a), (2, .int b)], [.int g], 0, 0) 1 2 (fun _ => rfl) h) ?_
  by_cases t1 : g.toInt = 42
  · refine pj_X_of (fun r h => pj_R_lw 68 rfl (n := 42) t1 rfl h) ?_
    refine pj_X_of (fun r h => pj_R_to (G0, 71, [(0, .int g), (1, .int a), (2, .int b)], [.int (a * b)], 0, 0) 71 4 (fun _ => rfl) h) ?_
    obtain ⟨z2, hz2⟩ : ∃ z : Int32, z = a * b := ⟨_, rfl⟩
    rw [← hz2]
    exact pj_X_rt rfl rfl ⟨_, rfl, rfl, pj_i32 _⟩
  by_cases t3 : g.toInt = 43
  · refine pj_X_of (fun r h => pj_R_lw 60 rfl (n := 43) t3 rfl h) ?_
    refine pj_X_of (fun r h => pj_R_to (G0, 63, [(0, .int g), (1, .int a), (2, .int b)], [.int (a + b)], 0, 0) 63 4 (fun _ => rfl) h) ?_
    obtain ⟨z4, hz4⟩ : ∃ z : Int32, z = a + b := ⟨_, rfl⟩
    rw [← hz4]
    exact pj_X_rt rfl rfl ⟨_, rfl, rfl, pj_i32 _⟩
  by_cases t5 : g.toInt = 45
  · refine pj_X_of (fun r h => pj_R_lw 64 rfl (n := 45) t5 rfl h) ?_
    refine pj_X_of (fun r h => pj_R_to (G0, 67, [(0, .int g), (1, .int a), (2, .int b)], [.int (a - b)], 0, 0) 67 4 (fun _ => rfl) h) ?_
    obtain ⟨z6, hz6⟩ : ∃ z : Int32, z = a - b := ⟨_, rfl⟩
    rw [← hz6]
    exact pj_X_rt rfl rfl ⟨_, rfl, rfl, pj_i32 _⟩
  by_cases t7 : g.toInt = 47
  · refine pj_X_of (fun r h => pj_R_lw 72 rfl (n := 47) t7 rfl h) ?_
    refine pj_X_of (fun r h => pj_R_to (G0, 73, [(0, .int g), (1, .int a), (2, .int b)], [.int b], 0, 0) 73 2 (fun _ => rfl) h) ?_
    cases b8 : pj_c1 .ne b 0 with
    | true =>
      have ub8 := pj_u0_neT b8
      refine pj_X_of (fun r h => pj_R_ifT 80 rfl rfl b8 h) ?_
      refine pj_X_of (fun r h => pj_R_to (G0, 82, [(0, .int g), (1, .int a), (2, .int b)], [.int b, .int a], 0, 0) 82 3 (fun _ => rfl) h) ?_
      refine pj_X_of (fun r h => pj_R_dv rfl (pj_nz (by omega)) h) ?_
      show pj_X _ _ G0 83 [(0, .int g), (1, .int a), (2, .int b)] [.int (a / b)] _
      obtain ⟨z9, hz9⟩ : ∃ z : Int32, z = a / b := ⟨_, rfl⟩
      rw [← hz9]
      exact pj_X_rt rfl rfl ⟨_, rfl, rfl, pj_i32 _⟩
    | false =>
      have ub8 := pj_u0_neF b8
      refine pj_X_of (fun r h => pj_R_ifF rfl b8 h) ?_
      refine pj_X_of (fun r h => pj_R_to (G0, 83, [(0, .int g), (1, .int a), (2, .int b)], [.int (Int32.ofInt 0)], 0, 0) 83 3 (fun _ => rfl) h) ?_
      exact pj_X_rt rfl rfl ⟨_, rfl, rfl, pj_i32 _⟩
  by_cases t10 : g.toInt = 60
  · refine pj_X_of (fun r h => pj_R_lw 84 rfl (n := 60) t10 rfl h) ?_
    refine pj_X_of (fun r h => pj_R_to (G0, 86, [(0, .int g), (1, .int a), (2, .int b)], [.int b, .int a], 0, 0) 86 3 (fun _ => rfl) h) ?_
    cases b11 : pj_c1 .ge a b with
    | true =>
      have ub11 := pj_u_geT b11
      refine pj_X_of (fun r h => pj_R_icT 93 rfl rfl b11 h) ?_
      refine pj_X_of (fun r h => pj_R_to (G0, 94, [(0, .int g), (1, .int a), (2, .int b)], [.int (Int32.ofInt 0)], 0, 0) 94 2 (fun _ => rfl) h) ?_
      exact pj_X_rt rfl rfl ⟨_, rfl, rfl, pj_i32 _⟩
    | false =>
      have ub11 := pj_u_geF b11
      refine pj_X_of (fun r h => pj_R_icF rfl b11 h) ?_
      refine pj_X_of (fun r h => pj_R_to (G0, 94, [(0, .int g), (1, .int a), (2, .int b)], [.int (Int32.ofInt 1)], 0, 0) 94 3 (fun _ => rfl) h) ?_
      exact pj_X_rt rfl rfl ⟨_, rfl, rfl, pj_i32 _⟩
  by_cases t12 : g.toInt = 62
  · refine pj_X_of (fun r h => pj_R_lw 95 rfl (n := 62) t12 rfl h) ?_
    refine pj_X_of (fun r h => pj_R_to (G0, 97, [(0, .int g), (1, .int a), (2, .int b)], [.int b, .int a], 0, 0) 97 3 (fun _ => rfl) h) ?_
    cases b13 : pj_c1 .le a b with
    | true =>
      have ub13 := pj_u_leT b13
      refine pj_X_of (fun r h => pj_R_icT 104 rfl rfl b13 h) ?_
      refine pj_X_of (fun r h => pj_R_to (G0, 105, [(0, .int g), (1, .int a), (2, .int b)], [.int (Int32.ofInt 0)], 0, 0) 105 2 (fun _ => rfl) h) ?_
      exact pj_X_rt rfl rfl ⟨_, rfl, rfl, pj_i32 _⟩
    | false =>
      have ub13 := pj_u_leF b13
      refine pj_X_of (fun r h => pj_R_icF rfl b13 h) ?_
      refine pj_X_of (fun r h => pj_R_to (G0, 105, [(0, .int g), (1, .int a), (2, .int b)], [.int (Int32.ofInt 1)], 0, 0) 105 3 (fun _ => rfl) h) ?_
      exact pj_X_rt rfl rfl ⟨_, rfl, rfl, pj_i32 _⟩
  refine pj_X_of (fun r h => pj_R_ld 106 rfl ⟨by show ¬ (42 : Int) = _; omega, by show ¬ (43 : Int) = _; omega, by show ¬ (45 : Int) = _; omega, by show ¬ (47 : Int) = _; omega, by show ¬ (60 : Int) = _; omega, by show ¬ (62 : Int) = _; omega, trivial⟩ rfl h) ?_
  refine pj_X_of (fun r h => pj_R_to (G0, 108, [(0, .int g), (1, .int a), (2, .int b)], [.int b, .int a], 0, 0) 108 3 (fun _ => rfl) h) ?_
  cases b14 : pj_c1 .ne a b with
  | true =>
    have ub14 := pj_u_neT b14
    refine pj_X_of (fun r h => pj_R_icT 115 rfl rfl b14 h) ?_
    refine pj_X_of (fun r h => pj_R_to (G0, 116, [(0, .int g), (1, .int a), (2, .int b)], [.int (Int32.ofInt 0)], 0, 0) 116 2 (fun _ => rfl) h) ?_
    exact pj_X_rt rfl rfl ⟨_, rfl, rfl, pj_i32 _⟩
  | false =>
    have ub14 := pj_u_neF b14
    refine pj_X_of (fun r h => pj_R_icF rfl b14 h) ?_
    refine pj_X_of (fun r h => pj_R_to (G0, 116, [(0, .int g), (1, .int a), (2, .int b)], [.int (Int32.ofInt 1)], 0, 0) 116 3 (fun _ => rfl) h) ?_
    exact pj_X_rt rfl rfl ⟨_, rfl, rfl, pj_i32 _⟩
def kc_65 : pj_KT := ([], [30], [30])
theorem lp_ct_65 (G0 : pj_G) (hI0 : pj_Inv G0) : ∀ mn : Nat, (∀ (G : pj_G) (hI : pj_Inv G) (hK : pj_kpt kc_65 G0 G) (v2 : Int32) (v3 : Int32), ((0 : Int) ≤ v2.toInt ∧ v2.toInt ≤ 40) → ((0 : Int) ≤ v3.toInt ∧ v3.toInt ≤ 40) → 40 - v3.toInt < (mn : Int) → pj_X 1 pj_m65 G 26 [(0, .ref 27), (1, .ref 33), (2, .int v2), (3, .int v3)] [] (fun v G' => ∃ y : Int32, v = some (.int y) ∧ pj_Inv G' ∧ pj_kpt kc_65 G0 G' ∧ ((-2147483648 : Int) ≤ y.toInt ∧ y.toInt ≤ 2147483647))) := by
  have c0_ : ((Int16.ofInt 1000).toInt32).toInt = 1000 := by decide
  have c1_ : ((Int16.ofInt 2000).toInt32).toInt = 2000 := by decide
  have c2_ : ((Int16.ofInt 3000).toInt32).toInt = 3000 := by decide
  have c3_ : ((Int8.ofInt 40).toInt32).toInt = 40 := by decide
  have c4_ : ((Int8.ofInt 9).toInt32).toInt = 9 := by decide
  have c5_ : (Int32.ofInt (-1)).toInt = -1 := by decide
  have c6_ : (Int32.ofInt 0).toInt = 0 := by decide
  have c7_ : (Int32.ofInt 1).toInt = 1 := by decide
  have c8_ : (Int32.ofInt 2).toInt = 2 := by decide
  intro mn
  induction mn with
  | zero =>
    intro G hI hK v2 v3 rv2 rv3 hm
    exfalso
    omega
  | succ mn ih =>
    intro G hI hK v2 v3 rv2 rv3 hm
    refine pj_X_of (fun r h => pj_R_to (G, 28, [(0, .ref 27), (1, .ref 33), (2, .int v2), (3, .int v3)], [.ref 27, .int v3], 0, 0) 28 3 (fun _ => rfl) h) ?_
    refine pj_X_of (fun r h => pj_T_gi hI rfl rfl h) ?_
    show pj_X _ _ G 31 [(0, .ref 27), (1, .ref 33), (2, .int v2), (3, .int v3)] [.int (pj_fi G 27 1), .int v3] _
    obtain ⟨y1, hy1⟩ : ∃ z : Int32, z = pj_fi G 27 1 := ⟨_, rfl⟩
    rw [← hy1]
    have ey1 : (pj_fi G 27 1).toInt = y1.toInt := by rw [hy1]
    have ry1 : (0 : Int) ≤ y1.toInt ∧ y1.toInt ≤ 40 := by rw [hy1]; exact hI.2.1 27 1 (0, 40) rfl
    cases b2 : pj_c1 .ge v3 y1 with
    | true =>
      have ub2 := pj_u_geT b2
      refine pj_X_of (fun r h => pj_R_icT 166 rfl rfl b2 h) ?_
      refine pj_X_of (fun r h => pj_R_to (G, 167, [(0, .ref 27), (1, .ref 33), (2, .int v2), (3, .int v3)], [.ref 27], 0, 0) 167 2 (fun _ => rfl) h) ?_
      refine pj_X_of (fun r h => pj_T_gr hI rfl rfl rfl h) ?_
      refine pj_X_of (fun r h => pj_R_to (G, 171, [(0, .ref 27), (1, .ref 33), (2, .int v2), (3, .int v3)], [.int (Int32.ofInt 0), .ref 30], 0, 0) 171 2 (fun _ => rfl) h) ?_
      refine pj_X_of (fun r h => pj_T_il hI rfl rfl (by omega) (by omega) h) ?_
      show pj_X _ _ G 172 [(0, .ref 27), (1, .ref 33), (2, .int v2), (3, .int v3)] [.int (pj_ai G 30 (Int32.ofInt 0).toInt.toNat)] _
      obtain ⟨z3, hz3⟩ : ∃ z : Int32, z = pj_ai G 30 (Int32.ofInt 0).toInt.toNat := ⟨_, rfl⟩
      rw [← hz3]
      have ez3 : (pj_ai G 30 (Int32.ofInt 0).toInt.toNat).toInt = z3.toInt := by rw [hz3]
      exact pj_X_rt rfl rfl ⟨_, rfl, hI, hK, pj_i32 _⟩
    | false =>
      have ub2 := pj_u_geF b2
      refine pj_X_of (fun r h => pj_R_icF rfl b2 h) ?_
      refine pj_X_of (fun r h => pj_R_to (G, 35, [(0, .ref 27), (1, .ref 33), (2, .int v2), (3, .int v3)], [.ref 27], 0, 0) 35 2 (fun _ => rfl) h) ?_
      refine pj_X_gm hI rfl rfl (fun q4 => ?_) (fun q4 => ?_)
      · refine pj_X_of (fun r h => pj_R_to (G, 39, [(0, .ref 27), (1, .ref 33), (2, .int v2), (3, .int v3)], [.int v3, .ref 28], 0, 0) 39 2 (fun _ => rfl) h) ?_
        refine pj_X_of (fun r h => pj_T_il hI rfl rfl (by omega) (by omega) h) ?_
        show pj_X _ _ G 40 [(0, .ref 27), (1, .ref 33), (2, .int v2), (3, .int v3)] [.int (pj_ai G 28 v3.toInt.toNat)] _
        obtain ⟨z5, hz5⟩ : ∃ z : Int32, z = pj_ai G 28 v3.toInt.toNat := ⟨_, rfl⟩
        rw [← hz5]
        have ez5 : (pj_ai G 28 v3.toInt.toNat).toInt = z5.toInt := by rw [hz5]
        have fz5_0 : (0 : Int) ≤ z5.toInt ∧ z5.toInt ≤ 3255 ∧ (z5.toInt ≤ 1006 ∨ 2000 ≤ z5.toInt) := by rw [hz5]; exact hI.2.2.1 28 (40, 0, 3255, 1006, 2000) rfl _ (by show _ < 40; omega)
        refine pj_X_of (fun r h => pj_R_to (G, 47, [(4, .int z5), (0, .ref 27), (1, .ref 33), (2, .int v2), (3, .int v3)], [.int ((Int16.ofInt 2000).toInt32), .int z5], 0, 0) 47 4 (fun _ => rfl) h) ?_
        cases b6 : pj_c1 .ge z5 ((Int16.ofInt 2000).toInt32) with
        | true =>
          have ub6 := pj_u_geT b6
          refine pj_X_of (fun r h => pj_R_icT 89 rfl rfl b6 h) ?_
          refine pj_X_of (fun r h => pj_R_to (G, 94, [(4, .int z5), (0, .ref 27), (1, .ref 33), (2, .int v2), (3, .int v3)], [.int ((Int16.ofInt 2000).toInt32), .int z5], 0, 0) 94 3 (fun _ => rfl) h) ?_
          cases b7 : pj_c1 .ne z5 ((Int16.ofInt 2000).toInt32) with
          | true =>
            have ub7 := pj_u_neT b7
            refine pj_X_of (fun r h => pj_R_icT 121 rfl rfl b7 h) ?_
            refine pj_X_of (fun r h => pj_R_to (G, 123, [(4, .int z5), (0, .ref 27), (1, .ref 33), (2, .int v2), (3, .int v3)], [.int (Int32.ofInt 1), .int v2], 0, 0) 123 3 (fun _ => rfl) h) ?_
            cases b8 : pj_c1 .le v2 (Int32.ofInt 1) with
            | true =>
              have ub8 := pj_u_leT b8
              refine pj_X_of (fun r h => pj_R_icT 160 rfl rfl b8 h) ?_
              refine pj_X_of (fun r h => pj_R_to (G, 163, [(3, .int (v3 + Int32.ofInt 1)), (4, .int z5), (0, .ref 27), (1, .ref 33), (2, .int v2)], [], 0, 0) 163 2 (fun _ => rfl) h) ?_
              obtain ⟨z9, hz9⟩ : ∃ z : Int32, z = v3 + Int32.ofInt 1 := ⟨_, rfl⟩
              rw [← hz9]
              have fz9_0 : z9.toInt = v3.toInt + (Int32.ofInt 1).toInt := by rw [hz9]; exact pj_addI (by have := pj_i32 v3; have := pj_i32 (Int32.ofInt 1); omega) (by have := pj_i32 v3; have := pj_i32 (Int32.ofInt 1); omega)
              refine pj_X_of (fun r h => pj_R_to (G, 26, [(3, .int z9), (4, .int z5), (0, .ref 27), (1, .ref 33), (2, .int v2)], [], 0, 0) 26 2 (fun _ => rfl) h) ?_
              exact pj_X_sub [(0, .ref 27), (1, .ref 33), (2, .int v2), (3, .int z9)] (show List.Nodup [0, 1, 2, 3] by decide) ⟨rfl, rfl, rfl, rfl, trivial⟩ (ih G hI hK v2 z9 ⟨by omega, by omega⟩ ⟨by omega, by omega⟩ (by omega))
            | false =>
              have ub8 := pj_u_leF b8
              refine pj_X_of (fun r h => pj_R_icF rfl b8 h) ?_
              refine pj_X_of (fun r h => pj_R_to (G, 129, [(2, .int (v2 + Int32.ofInt (-1))), (4, .int z5), (0, .ref 27), (1, .ref 33), (3, .int v3)], [], 0, 0) 129 2 (fun _ => rfl) h) ?_
              obtain ⟨z10, hz10⟩ : ∃ z : Int32, z = v2 + Int32.ofInt (-1) := ⟨_, rfl⟩
              rw [← hz10]
              have fz10_0 : z10.toInt = v2.toInt + (Int32.ofInt (-1)).toInt := by rw [hz10]; exact pj_addI (by have := pj_i32 v2; have := pj_i32 (Int32.ofInt (-1)); omega) (by have := pj_i32 v2; have := pj_i32 (Int32.ofInt (-1)); omega)
              refine pj_X_of (fun r h => pj_R_to (G, 130, [(2, .int z10), (4, .int z5), (0, .ref 27), (1, .ref 33), (3, .int v3)], [.ref 27], 0, 0) 130 2 (fun _ => rfl) h) ?_
              refine pj_X_of (fun r h => pj_T_gr hI rfl rfl rfl h) ?_
              refine pj_X_of (fun r h => pj_R_to (G, 136, [(2, .int z10), (4, .int z5), (0, .ref 27), (1, .ref 33), (3, .int v3)], [.int (z10 - (Int32.ofInt 1)), .ref 30], 0, 0) 136 4 (fun _ => rfl) h) ?_
              obtain ⟨z11, hz11⟩ : ∃ z : Int32, z = z10 - (Int32.ofInt 1) := ⟨_, rfl⟩
              rw [← hz11]
              have fz11_0 : z11.toInt = z10.toInt - (Int32.ofInt 1).toInt := by rw [hz11]; exact pj_subI (by have := pj_i32 z10; have := pj_i32 (Int32.ofInt 1); omega) (by have := pj_i32 z10; have := pj_i32 (Int32.ofInt 1); omega)
              refine pj_X_of (fun r h => pj_R_to (G, 142, [(2, .int z10), (4, .int z5), (0, .ref 27), (1, .ref 33), (3, .int v3)], [.int (z5 - ((Int16.ofInt 3000).toInt32)), .int z11, .ref 30], 0, 0) 142 4 (fun _ => rfl) h) ?_
              obtain ⟨z12, hz12⟩ : ∃ z : Int32, z = z5 - ((Int16.ofInt 3000).toInt32) := ⟨_, rfl⟩
              rw [← hz12]
              have fz12_0 : z12.toInt = z5.toInt - ((Int16.ofInt 3000).toInt32).toInt := by rw [hz12]; exact pj_subI (by have := pj_i32 z5; have := pj_i32 ((Int16.ofInt 3000).toInt32); omega) (by have := pj_i32 z5; have := pj_i32 ((Int16.ofInt 3000).toInt32); omega)
              refine pj_X_of (fun r h => pj_R_to (G, 143, [(2, .int z10), (4, .int z5), (0, .ref 27), (1, .ref 33), (3, .int v3)], [.ref 27, .int z12, .int z11, .ref 30], 0, 0) 143 2 (fun _ => rfl) h) ?_
              refine pj_X_of (fun r h => pj_T_gr hI rfl rfl rfl h) ?_
              refine pj_X_of (fun r h => pj_R_to (G, 149, [(2, .int z10), (4, .int z5), (0, .ref 27), (1, .ref 33), (3, .int v3)], [.int (z10 - (Int32.ofInt 1)), .ref 30, .int z12, .int z11, .ref 30], 0, 0) 149 4 (fun _ => rfl) h) ?_
              obtain ⟨z13, hz13⟩ : ∃ z : Int32, z = z10 - (Int32.ofInt 1) := ⟨_, rfl⟩
              rw [← hz13]
              have fz13_0 : z13.toInt = z10.toInt - (Int32.ofInt 1).toInt := by rw [hz13]; exact pj_subI (by have := pj_i32 z10; have := pj_i32 (Int32.ofInt 1); omega) (by have := pj_i32 z10; have := pj_i32 (Int32.ofInt 1); omega)
              refine pj_X_of (fun r h => pj_T_il hI rfl rfl (by omega) (by omega) h) ?_
              show pj_X _ _ G 150 [(2, .int z10), (4, .int z5), (0, .ref 27), (1, .ref 33), (3, .int v3)] [.int (pj_ai G 30 z13.toInt.toNat), .int z12, .int z11, .ref 30] _
              obtain ⟨z14, hz14⟩ : ∃ z : Int32, z = pj_ai G 30 z13.toInt.toNat := ⟨_, rfl⟩
              rw [← hz14]
              have ez14 : (pj_ai G 30 z13.toInt.toNat).toInt = z14.toInt := by rw [hz14]
              refine pj_X_of (fun r h => pj_R_to (G, 151, [(2, .int z10), (4, .int z5), (0, .ref 27), (1, .ref 33), (3, .int v3)], [.ref 27, .int z14, .int z12, .int z11, .ref 30], 0, 0) 151 2 (fun _ => rfl) h) ?_
              refine pj_X_of (fun r h => pj_T_gr hI rfl rfl rfl h) ?_
              refine pj_X_of (fun r h => pj_R_to (G, 155, [(2, .int z10), (4, .int z5), (0, .ref 27), (1, .ref 33), (3, .int v3)], [.int z10, .ref 30, .int z14, .int z12, .int z11, .ref 30], 0, 0) 155 2 (fun _ => rfl) h) ?_
              refine pj_X_of (fun r h => pj_T_il hI rfl rfl (by omega) (by omega) h) ?_
              show pj_X _ _ G 156 [(2, .int z10), (4, .int z5), (0, .ref 27), (1, .ref 33), (3, .int v3)] [.int (pj_ai G 30 z10.toInt.toNat), .int z14, .int z12, .int z11, .ref 30] _
              obtain ⟨z15, hz15⟩ : ∃ z : Int32, z = pj_ai G 30 z10.toInt.toNat := ⟨_, rfl⟩
              rw [← hz15]
              have ez15 : (pj_ai G 30 z10.toInt.toNat).toInt = z15.toInt := by rw [hz15]
              refine pj_X_ca (vs := [.int z12, .int z14, .int z15]) rfl (fun _ => rfl) ⟨Nat.le_of_ble_eq_true rfl, Nat.le_of_ble_eq_true rfl, rfl⟩ ⟨rfl, rfl⟩ (pj_Y_up (by decide) (ct_66 G hI z12 z14 z15)) ?_
              rintro _ _ ⟨y16, rfl, rfl, ry16⟩
              show pj_X _ _ G 159 [(2, .int z10), (4, .int z5), (0, .ref 27), (1, .ref 33), (3, .int v3)] [.int y16, .int z11, .ref 30] _
              refine pj_X_of (fun r h => pj_T_is hI rfl rfl (by omega) (by omega) h) ?_
              show pj_X _ _ (pj_wa G 30 z11.toInt.toNat y16) 160 [(2, .int z10), (4, .int z5), (0, .ref 27), (1, .ref 33), (3, .int v3)] [] _
              obtain ⟨G17, hG17⟩ : ∃ H, H = pj_wa G 30 z11.toInt.toNat y16 := ⟨_, rfl⟩
              have iG17 : pj_Inv G17 := by rw [hG17]; exact pj_Inv_wa hI rfl (fun q hq => by cases hq) (fun n hn => by cases hn)
              have kG17 : pj_kpt kc_65 G0 G17 := by rw [hG17]; exact pj_kpt_a hK rfl
              rw [← hG17]
              refine pj_X_of (fun r h => pj_R_to (G17, 163, [(3, .int (v3 + Int32.ofInt 1)), (2, .int z10), (4, .int z5), (0, .ref 27), (1, .ref 33)], [], 0, 0) 163 2 (fun _ => rfl) h) ?_
              obtain ⟨z18, hz18⟩ : ∃ z : Int32, z = v3 + Int32.ofInt 1 := ⟨_, rfl⟩
              rw [← hz18]
              have fz18_0 : z18.toInt = v3.toInt + (Int32.ofInt 1).toInt := by rw [hz18]; exact pj_addI (by have := pj_i32 v3; have := pj_i32 (Int32.ofInt 1); omega) (by have := pj_i32 v3; have := pj_i32 (Int32.ofInt 1); omega)
              refine pj_X_of (fun r h => pj_R_to (G17, 26, [(3, .int z18), (2, .int z10), (4, .int z5), (0, .ref 27), (1, .ref 33)], [], 0, 0) 26 2 (fun _ => rfl) h) ?_
              exact pj_X_sub [(0, .ref 27), (1, .ref 33), (2, .int z10), (3, .int z18)] (show List.Nodup [0, 1, 2, 3] by decide) ⟨rfl, rfl, rfl, rfl, trivial⟩ (ih G17 iG17 kG17 z10 z18 ⟨by omega, by omega⟩ ⟨by omega, by omega⟩ (by omega))
          | false =>
            have ub7 := pj_u_neF b7
            refine pj_X_of (fun r h => pj_R_icF rfl b7 h) ?_
            refine pj_X_of (fun r h => pj_R_to (G, 98, [(4, .int z5), (0, .ref 27), (1, .ref 33), (2, .int v2), (3, .int v3)], [.int v2], 0, 0) 98 2 (fun _ => rfl) h) ?_
            cases b19 : pj_c1 .le v2 0 with
            | true =>
              have ub19 := pj_u0_leT b19
              refine pj_X_of (fun r h => pj_R_ifT 121 rfl rfl b19 h) ?_
              refine pj_X_of (fun r h => pj_R_to (G, 123, [(4, .int z5), (0, .ref 27), (1, .ref 33), (2, .int v2), (3, .int v3)], [.int (Int32.ofInt 1), .int v2], 0, 0) 123 3 (fun _ => rfl) h) ?_
              refine pj_X_of (fun r h => pj_R_icT 160 rfl rfl (pj_b_leT (by omega)) h) ?_
              refine pj_X_of (fun r h => pj_R_to (G, 163, [(3, .int (v3 + Int32.ofInt 1)), (4, .int z5), (0, .ref 27), (1, .ref 33), (2, .int v2)], [], 0, 0) 163 2 (fun _ => rfl) h) ?_
              obtain ⟨z20, hz20⟩ : ∃ z : Int32, z = v3 + Int32.ofInt 1 := ⟨_, rfl⟩
              rw [← hz20]
              have fz20_0 : z20.toInt = v3.toInt + (Int32.ofInt 1).toInt := by rw [hz20]; exact pj_addI (by have := pj_i32 v3; have := pj_i32 (Int32.ofInt 1); omega) (by have := pj_i32 v3; have := pj_i32 (Int32.ofInt 1); omega)
              refine pj_X_of (fun r h => pj_R_to (G, 26, [(3, .int z20), (4, .int z5), (0, .ref 27), (1, .ref 33), (2, .int v2)], [], 0, 0) 26 2 (fun _ => rfl) h) ?_
              exact pj_X_sub [(0, .ref 27), (1, .ref 33), (2, .int v2), (3, .int z20)] (show List.Nodup [0, 1, 2, 3] by decide) ⟨rfl, rfl, rfl, rfl, trivial⟩ (ih G hI hK v2 z20 ⟨by omega, by omega⟩ ⟨by omega, by omega⟩ (by omega))
            | false =>
              have ub19 := pj_u0_leF b19
              refine pj_X_of (fun r h => pj_R_ifF rfl b19 h) ?_
              refine pj_X_of (fun r h => pj_R_to (G, 102, [(4, .int z5), (0, .ref 27), (1, .ref 33), (2, .int v2), (3, .int v3)], [.ref 27], 0, 0) 102 2 (fun _ => rfl) h) ?_
              refine pj_X_of (fun r h => pj_T_gr hI rfl rfl rfl h) ?_
              refine pj_X_of (fun r h => pj_R_to (G, 108, [(4, .int z5), (0, .ref 27), (1, .ref 33), (2, .int v2), (3, .int v3)], [.int (v2 - (Int32.ofInt 1)), .ref 30], 0, 0) 108 4 (fun _ => rfl) h) ?_
              obtain ⟨z21, hz21⟩ : ∃ z : Int32, z = v2 - (Int32.ofInt 1) := ⟨_, rfl⟩
              rw [← hz21]
              have fz21_0 : z21.toInt = v2.toInt - (Int32.ofInt 1).toInt := by rw [hz21]; exact pj_subI (by have := pj_i32 v2; have := pj_i32 (Int32.ofInt 1); omega) (by have := pj_i32 v2; have := pj_i32 (Int32.ofInt 1); omega)
              refine pj_X_of (fun r h => pj_R_to (G, 109, [(4, .int z5), (0, .ref 27), (1, .ref 33), (2, .int v2), (3, .int v3)], [.ref 27, .int z21, .ref 30], 0, 0) 109 2 (fun _ => rfl) h) ?_
              refine pj_X_of (fun r h => pj_T_gr hI rfl rfl rfl h) ?_
              refine pj_X_of (fun r h => pj_R_to (G, 115, [(4, .int z5), (0, .ref 27), (1, .ref 33), (2, .int v2), (3, .int v3)], [.int (v2 - (Int32.ofInt 1)), .ref 30, .int z21, .ref 30], 0, 0) 115 4 (fun _ => rfl) h) ?_
              obtain ⟨z22, hz22⟩ : ∃ z : Int32, z = v2 - (Int32.ofInt 1) := ⟨_, rfl⟩
              rw [← hz22]
              have fz22_0 : z22.toInt = v2.toInt - (Int32.ofInt 1).toInt := by rw [hz22]; exact pj_subI (by have := pj_i32 v2; have := pj_i32 (Int32.ofInt 1); omega) (by have := pj_i32 v2; have := pj_i32 (Int32.ofInt 1); omega)
              refine pj_X_of (fun r h => pj_T_il hI rfl rfl (by omega) (by omega) h) ?_
              show pj_X _ _ G 116 [(4, .int z5), (0, .ref 27), (1, .ref 33), (2, .int v2), (3, .int v3)] [.int (pj_ai G 30 z22.toInt.toNat), .int z21, .ref 30] _
              obtain ⟨z23, hz23⟩ : ∃ z : Int32, z = pj_ai G 30 z22.toInt.toNat := ⟨_, rfl⟩
              rw [← hz23]
              have ez23 : (pj_ai G 30 z22.toInt.toNat).toInt = z23.toInt := by rw [hz23]
              refine pj_X_of (fun r h => pj_R_to (G, 117, [(4, .int z5), (0, .ref 27), (1, .ref 33), (2, .int v2), (3, .int v3)], [.int (-z23), .int z21, .ref 30], 0, 0) 117 2 (fun _ => rfl) h) ?_
              obtain ⟨z24, hz24⟩ : ∃ z : Int32, z = -z23 := ⟨_, rfl⟩
              rw [← hz24]
              refine pj_X_of (fun r h => pj_T_is hI rfl rfl (by omega) (by omega) h) ?_
              show pj_X _ _ (pj_wa G 30 z21.toInt.toNat z24) 118 [(4, .int z5), (0, .ref 27), (1, .ref 33), (2, .int v2), (3, .int v3)] [] _
              obtain ⟨G25, hG25⟩ : ∃ H, H = pj_wa G 30 z21.toInt.toNat z24 := ⟨_, rfl⟩
              have iG25 : pj_Inv G25 := by rw [hG25]; exact pj_Inv_wa hI rfl (fun q hq => by cases hq) (fun n hn => by cases hn)
              have kG25 : pj_kpt kc_65 G0 G25 := by rw [hG25]; exact pj_kpt_a hK rfl
              rw [← hG25]
              refine pj_X_of (fun r h => pj_R_to (G25, 163, [(3, .int (v3 + Int32.ofInt 1)), (4, .int z5), (0, .ref 27), (1, .ref 33), (2, .int v2)], [], 0, 0) 163 3 (fun _ => rfl) h) ?_
              obtain ⟨z26, hz26⟩ : ∃ z : Int32, z = v3 + Int32.ofInt 1 := ⟨_, rfl⟩
              rw [← hz26]
              have fz26_0 : z26.toInt = v3.toInt + (Int32.ofInt 1).toInt := by rw [hz26]; exact pj_addI (by have := pj_i32 v3; have := pj_i32 (Int32.ofInt 1); omega) (by have := pj_i32 v3; have := pj_i32 (Int32.ofInt 1); omega)
              refine pj_X_of (fun r h => pj_R_to (G25, 26, [(3, .int z26), (4, .int z5), (0, .ref 27), (1, .ref 33), (2, .int v2)], [], 0, 0) 26 2 (fun _ => rfl) h) ?_
              exact pj_X_sub [(0, .ref 27), (1, .ref 33), (2, .int v2), (3, .int z26)] (show List.Nodup [0, 1, 2, 3] by decide) ⟨rfl, rfl, rfl, rfl, trivial⟩ (ih G25 iG25 kG25 v2 z26 ⟨by omega, by omega⟩ ⟨by omega, by omega⟩ (by omega))
        | false =>
          have ub6 := pj_u_geF b6
          refine pj_X_of (fun r h => pj_R_icF rfl b6 h) ?_
          refine pj_X_of (fun r h => pj_R_to (G, 53, [(4, .int z5), (0, .ref 27), (1, .ref 33), (2, .int v2), (3, .int v3)], [.int ((Int8.ofInt 40).toInt32), .int v2], 0, 0) 53 3 (fun _ => rfl) h) ?_
          cases b27 : pj_c1 .ge v2 ((Int8.ofInt 40).toInt32) with
          | true =>
            have ub27 := pj_u_geT b27
            refine pj_X_of (fun r h => pj_R_icT 89 rfl rfl b27 h) ?_
            refine pj_X_of (fun r h => pj_R_to (G, 94, [(4, .int z5), (0, .ref 27), (1, .ref 33), (2, .int v2), (3, .int v3)], [.int ((Int16.ofInt 2000).toInt32), .int z5], 0, 0) 94 3 (fun _ => rfl) h) ?_
            refine pj_X_of (fun r h => pj_R_icT 121 rfl rfl (pj_b_neT (by omega)) h) ?_
            refine pj_X_of (fun r h => pj_R_to (G, 123, [(4, .int z5), (0, .ref 27), (1, .ref 33), (2, .int v2), (3, .int v3)], [.int (Int32.ofInt 1), .int v2], 0, 0) 123 3 (fun _ => rfl) h) ?_
            refine pj_X_of (fun r h => pj_R_icF rfl (pj_b_leF (by omega)) h) ?_
            refine pj_X_of (fun r h => pj_R_to (G, 129, [(2, .int (v2 + Int32.ofInt (-1))), (4, .int z5), (0, .ref 27), (1, .ref 33), (3, .int v3)], [], 0, 0) 129 2 (fun _ => rfl) h) ?_
            obtain ⟨z28, hz28⟩ : ∃ z : Int32, z = v2 + Int32.ofInt (-1) := ⟨_, rfl⟩
            rw [← hz28]
            have fz28_0 : z28.toInt = v2.toInt + (Int32.ofInt (-1)).toInt := by rw [hz28]; exact pj_addI (by have := pj_i32 v2; have := pj_i32 (Int32.ofInt (-1)); omega) (by have := pj_i32 v2; have := pj_i32 (Int32.ofInt (-1)); omega)
            refine pj_X_of (fun r h => pj_R_to (G, 130, [(2, .int z28), (4, .int z5), (0, .ref 27), (1, .ref 33), (3, .int v3)], [.ref 27], 0, 0) 130 2 (fun _ => rfl) h) ?_
            refine pj_X_of (fun r h => pj_T_gr hI rfl rfl rfl h) ?_
            refine pj_X_of (fun r h => pj_R_to (G, 136, [(2, .int z28), (4, .int z5), (0, .ref 27), (1, .ref 33), (3, .int v3)], [.int (z28 - (Int32.ofInt 1)), .ref 30], 0, 0) 136 4 (fun _ => rfl) h) ?_
            obtain ⟨z29, hz29⟩ : ∃ z : Int32, z = z28 - (Int32.ofInt 1) := ⟨_, rfl⟩
            rw [← hz29]
            have fz29_0 : z29.toInt = z28.toInt - (Int32.ofInt 1).toInt := by rw [hz29]; exact pj_subI (by have := pj_i32 z28; have := pj_i32 (Int32.ofInt 1); omega) (by have := pj_i32 z28; have := pj_i32 (Int32.ofInt 1); omega)
            refine pj_X_of (fun r h => pj_R_to (G, 142, [(2, .int z28), (4, .int z5), (0, .ref 27), (1, .ref 33), (3, .int v3)], [.int (z5 - ((Int16.ofInt 3000).toInt32)), .int z29, .ref 30], 0, 0) 142 4 (fun _ => rfl) h) ?_
            obtain ⟨z30, hz30⟩ : ∃ z : Int32, z = z5 - ((Int16.ofInt 3000).toInt32) := ⟨_, rfl⟩
            rw [← hz30]
            have fz30_0 : z30.toInt = z5.toInt - ((Int16.ofInt 3000).toInt32).toInt := by rw [hz30]; exact pj_subI (by have := pj_i32 z5; have := pj_i32 ((Int16.ofInt 3000).toInt32); omega) (by have := pj_i32 z5; have := pj_i32 ((Int16.ofInt 3000).toInt32); omega)
            refine pj_X_of (fun r h => pj_R_to (G, 143, [(2, .int z28), (4, .int z5), (0, .ref 27), (1, .ref 33), (3, .int v3)], [.ref 27, .int z30, .int z29, .ref 30], 0, 0) 143 2 (fun _ => rfl) h) ?_
            refine pj_X_of (fun r h => pj_T_gr hI rfl rfl rfl h) ?_
            refine pj_X_of (fun r h => pj_R_to (G, 149, [(2, .int z28), (4, .int z5), (0, .ref 27), (1, .ref 33), (3, .int v3)], [.int (z28 - (Int32.ofInt 1)), .ref 30, .int z30, .int z29, .ref 30], 0, 0) 149 4 (fun _ => rfl) h) ?_
            obtain ⟨z31, hz31⟩ : ∃ z : Int32, z = z28 - (Int32.ofInt 1) := ⟨_, rfl⟩
            rw [← hz31]
            have fz31_0 : z31.toInt = z28.toInt - (Int32.ofInt 1).toInt := by rw [hz31]; exact pj_subI (by have := pj_i32 z28; have := pj_i32 (Int32.ofInt 1); omega) (by have := pj_i32 z28; have := pj_i32 (Int32.ofInt 1); omega)
            refine pj_X_of (fun r h => pj_T_il hI rfl rfl (by omega) (by omega) h) ?_
            show pj_X _ _ G 150 [(2, .int z28), (4, .int z5), (0, .ref 27), (1, .ref 33), (3, .int v3)] [.int (pj_ai G 30 z31.toInt.toNat), .int z30, .int z29, .ref 30] _
            obtain ⟨z32, hz32⟩ : ∃ z : Int32, z = pj_ai G 30 z31.toInt.toNat := ⟨_, rfl⟩
            rw [← hz32]
            have ez32 : (pj_ai G 30 z31.toInt.toNat).toInt = z32.toInt := by rw [hz32]
            refine pj_X_of (fun r h => pj_R_to (G, 151, [(2, .int z28), (4, .int z5), (0, .ref 27), (1, .ref 33), (3, .int v3)], [.ref 27, .int z32, .int z30, .int z29, .ref 30], 0, 0) 151 2 (fun _ => rfl) h) ?_
            refine pj_X_of (fun r h => pj_T_gr hI rfl rfl rfl h) ?_
            refine pj_X_of (fun r h => pj_R_to (G, 155, [(2, .int z28), (4, .int z5), (0, .ref 27), (1, .ref 33), (3, .int v3)], [.int z28, .ref 30, .int z32, .int z30, .int z29, .ref 30], 0, 0) 155 2 (fun _ => rfl) h) ?_
            refine pj_X_of (fun r h => pj_T_il hI rfl rfl (by omega) (by omega) h) ?_
            show pj_X _ _ G 156 [(2, .int z28), (4, .int z5), (0, .ref 27), (1, .ref 33), (3, .int v3)] [.int (pj_ai G 30 z28.toInt.toNat), .int z32, .int z30, .int z29, .ref 30] _
            obtain ⟨z33, hz33⟩ : ∃ z : Int32, z = pj_ai G 30 z28.toInt.toNat := ⟨_, rfl⟩
            rw [← hz33]
            have ez33 : (pj_ai G 30 z28.toInt.toNat).toInt = z33.toInt := by rw [hz33]
            refine pj_X_ca (vs := [.int z30, .int z32, .int z33]) rfl (fun _ => rfl) ⟨Nat.le_of_ble_eq_true rfl, Nat.le_of_ble_eq_true rfl, rfl⟩ ⟨rfl, rfl⟩ (pj_Y_up (by decide) (ct_66 G hI z30 z32 z33)) ?_
            rintro _ _ ⟨y34, rfl, rfl, ry34⟩
            show pj_X _ _ G 159 [(2, .int z28), (4, .int z5), (0, .ref 27), (1, .ref 33), (3, .int v3)] [.int y34, .int z29, .ref 30] _
            refine pj_X_of (fun r h => pj_T_is hI rfl rfl (by omega) (by omega) h) ?_
            show pj_X _ _ (pj_wa G 30 z29.toInt.toNat y34) 160 [(2, .int z28), (4, .int z5), (0, .ref 27), (1, .ref 33), (3, .int v3)] [] _
            obtain ⟨G35, hG35⟩ : ∃ H, H = pj_wa G 30 z29.toInt.toNat y34 := ⟨_, rfl⟩
            have iG35 : pj_Inv G35 := by rw [hG35]; exact pj_Inv_wa hI rfl (fun q hq => by cases hq) (fun n hn => by cases hn)
            have kG35 : pj_kpt kc_65 G0 G35 := by rw [hG35]; exact pj_kpt_a hK rfl
            rw [← hG35]
            refine pj_X_of (fun r h => pj_R_to (G35, 163, [(3, .int (v3 + Int32.ofInt 1)), (2, .int z28), (4, .int z5), (0, .ref 27), (1, .ref 33)], [], 0, 0) 163 2 (fun _ => rfl) h) ?_
            obtain ⟨z36, hz36⟩ : ∃ z : Int32, z = v3 + Int32.ofInt 1 := ⟨_, rfl⟩
            rw [← hz36]
            have fz36_0 : z36.toInt = v3.toInt + (Int32.ofInt 1).toInt := by rw [hz36]; exact pj_addI (by have := pj_i32 v3; have := pj_i32 (Int32.ofInt 1); omega) (by have := pj_i32 v3; have := pj_i32 (Int32.ofInt 1); omega)
            refine pj_X_of (fun r h => pj_R_to (G35, 26, [(3, .int z36), (2, .int z28), (4, .int z5), (0, .ref 27), (1, .ref 33)], [], 0, 0) 26 2 (fun _ => rfl) h) ?_
            exact pj_X_sub [(0, .ref 27), (1, .ref 33), (2, .int z28), (3, .int z36)] (show List.Nodup [0, 1, 2, 3] by decide) ⟨rfl, rfl, rfl, rfl, trivial⟩ (ih G35 iG35 kG35 z28 z36 ⟨by omega, by omega⟩ ⟨by omega, by omega⟩ (by omega))
          | false =>
            have ub27 := pj_u_geF b27
            refine pj_X_of (fun r h => pj_R_icF rfl b27 h) ?_
            refine pj_X_of (fun r h => pj_R_to (G, 57, [(4, .int z5), (0, .ref 27), (1, .ref 33), (2, .int v2), (3, .int v3)], [.ref 27], 0, 0) 57 2 (fun _ => rfl) h) ?_
            refine pj_X_of (fun r h => pj_T_gr hI rfl rfl rfl h) ?_
            refine pj_X_of (fun r h => pj_R_to (G, 66, [(4, .int z5), (0, .ref 27), (1, .ref 33), (2, .int v2), (3, .int v3)], [.int ((Int16.ofInt 1000).toInt32), .int z5, .int v2, .ref 30], 0, 0) 66 4 (fun _ => rfl) h) ?_
            cases b37 : pj_c1 .ge z5 ((Int16.ofInt 1000).toInt32) with
            | true =>
              have ub37 := pj_u_geT b37
              refine pj_X_of (fun r h => pj_R_icT 74 rfl rfl b37 h) ?_
              refine pj_X_of (fun r h => pj_R_to (G, 81, [(4, .int z5), (0, .ref 27), (1, .ref 33), (2, .int v2), (3, .int v3)], [.int (z5 - ((Int16.ofInt 1000).toInt32)), .ref 33, .int v2, .ref 30], 0, 0) 81 5 (fun _ => rfl) h) ?_
              obtain ⟨z38, hz38⟩ : ∃ z : Int32, z = z5 - ((Int16.ofInt 1000).toInt32) := ⟨_, rfl⟩
              rw [← hz38]
              have fz38_0 : z38.toInt = z5.toInt - ((Int16.ofInt 1000).toInt32).toInt := by rw [hz38]; exact pj_subI (by have := pj_i32 z5; have := pj_i32 ((Int16.ofInt 1000).toInt32); omega) (by have := pj_i32 z5; have := pj_i32 ((Int16.ofInt 1000).toInt32); omega)
              refine pj_X_of (fun r h => pj_T_il hI rfl rfl (by omega) (by omega) h) ?_
              show pj_X _ _ G 82 [(4, .int z5), (0, .ref 27), (1, .ref 33), (2, .int v2), (3, .int v3)] [.int (pj_ai G 33 z38.toInt.toNat), .int v2, .ref 30] _
              obtain ⟨z39, hz39⟩ : ∃ z : Int32, z = pj_ai G 33 z38.toInt.toNat := ⟨_, rfl⟩
              rw [← hz39]
              have ez39 : (pj_ai G 33 z38.toInt.toNat).toInt = z39.toInt := by rw [hz39]
              refine pj_X_of (fun r h => pj_T_is hI rfl rfl (by omega) (by omega) h) ?_
              show pj_X _ _ (pj_wa G 30 v2.toInt.toNat z39) 83 [(4, .int z5), (0, .ref 27), (1, .ref 33), (2, .int v2), (3, .int v3)] [] _
              obtain ⟨G40, hG40⟩ : ∃ H, H = pj_wa G 30 v2.toInt.toNat z39 := ⟨_, rfl⟩
              have iG40 : pj_Inv G40 := by rw [hG40]; exact pj_Inv_wa hI rfl (fun q hq => by cases hq) (fun n hn => by cases hn)
              have kG40 : pj_kpt kc_65 G0 G40 := by rw [hG40]; exact pj_kpt_a hK rfl
              rw [← hG40]
              refine pj_X_of (fun r h => pj_R_to (G40, 86, [(2, .int (v2 + Int32.ofInt 1)), (4, .int z5), (0, .ref 27), (1, .ref 33), (3, .int v3)], [], 0, 0) 86 2 (fun _ => rfl) h) ?_
              obtain ⟨z41, hz41⟩ : ∃ z : Int32, z = v2 + Int32.ofInt 1 := ⟨_, rfl⟩
              rw [← hz41]
              have fz41_0 : z41.toInt = v2.toInt + (Int32.ofInt 1).toInt := by rw [hz41]; exact pj_addI (by have := pj_i32 v2; have := pj_i32 (Int32.ofInt 1); omega) (by have := pj_i32 v2; have := pj_i32 (Int32.ofInt 1); omega)
              refine pj_X_of (fun r h => pj_R_to (G40, 163, [(3, .int (v3 + Int32.ofInt 1)), (2, .int z41), (4, .int z5), (0, .ref 27), (1, .ref 33)], [], 0, 0) 163 3 (fun _ => rfl) h) ?_
              obtain ⟨z42, hz42⟩ : ∃ z : Int32, z = v3 + Int32.ofInt 1 := ⟨_, rfl⟩
              rw [← hz42]
              have fz42_0 : z42.toInt = v3.toInt + (Int32.ofInt 1).toInt := by rw [hz42]; exact pj_addI (by have := pj_i32 v3; have := pj_i32 (Int32.ofInt 1); omega) (by have := pj_i32 v3; have := pj_i32 (Int32.ofInt 1); omega)
              refine pj_X_of (fun r h => pj_R_to (G40, 26, [(3, .int z42), (2, .int z41), (4, .int z5), (0, .ref 27), (1, .ref 33)], [], 0, 0) 26 2 (fun _ => rfl) h) ?_
              exact pj_X_sub [(0, .ref 27), (1, .ref 33), (2, .int z41), (3, .int z42)] (show List.Nodup [0, 1, 2, 3] by decide) ⟨rfl, rfl, rfl, rfl, trivial⟩ (ih G40 iG40 kG40 z41 z42 ⟨by omega, by omega⟩ ⟨by omega, by omega⟩ (by omega))
            | false =>
              have ub37 := pj_u_geF b37
              refine pj_X_of (fun r h => pj_R_icF rfl b37 h) ?_
              refine pj_X_of (fun r h => pj_R_to (G, 82, [(4, .int z5), (0, .ref 27), (1, .ref 33), (2, .int v2), (3, .int v3)], [.int z5, .int v2, .ref 30], 0, 0) 82 3 (fun _ => rfl) h) ?_
              refine pj_X_of (fun r h => pj_T_is hI rfl rfl (by omega) (by omega) h) ?_
              show pj_X _ _ (pj_wa G 30 v2.toInt.toNat z5) 83 [(4, .int z5), (0, .ref 27), (1, .ref 33), (2, .int v2), (3, .int v3)] [] _
              obtain ⟨G43, hG43⟩ : ∃ H, H = pj_wa G 30 v2.toInt.toNat z5 := ⟨_, rfl⟩
              have iG43 : pj_Inv G43 := by rw [hG43]; exact pj_Inv_wa hI rfl (fun q hq => by cases hq) (fun n hn => by cases hn)
              have kG43 : pj_kpt kc_65 G0 G43 := by rw [hG43]; exact pj_kpt_a hK rfl
              rw [← hG43]
              refine pj_X_of (fun r h => pj_R_to (G43, 86, [(2, .int (v2 + Int32.ofInt 1)), (4, .int z5), (0, .ref 27), (1, .ref 33), (3, .int v3)], [], 0, 0) 86 2 (fun _ => rfl) h) ?_
              obtain ⟨z44, hz44⟩ : ∃ z : Int32, z = v2 + Int32.ofInt 1 := ⟨_, rfl⟩
              rw [← hz44]
              have fz44_0 : z44.toInt = v2.toInt + (Int32.ofInt 1).toInt := by rw [hz44]; exact pj_addI (by have := pj_i32 v2; have := pj_i32 (Int32.ofInt 1); omega) (by have := pj_i32 v2; have := pj_i32 (Int32.ofInt 1); omega)
              refine pj_X_of (fun r h => pj_R_to (G43, 163, [(3, .int (v3 + Int32.ofInt 1)), (2, .int z44), (4, .int z5), (0, .ref 27), (1, .ref 33)], [], 0, 0) 163 3 (fun _ => rfl) h) ?_
              obtain ⟨z45, hz45⟩ : ∃ z : Int32, z = v3 + Int32.ofInt 1 := ⟨_, rfl⟩
              rw [← hz45]
              have fz45_0 : z45.toInt = v3.toInt + (Int32.ofInt 1).toInt := by rw [hz45]; exact pj_addI (by have := pj_i32 v3; have := pj_i32 (Int32.ofInt 1); omega) (by have := pj_i32 v3; have := pj_i32 (Int32.ofInt 1); omega)
              refine pj_X_of (fun r h => pj_R_to (G43, 26, [(3, .int z45), (2, .int z44), (4, .int z5), (0, .ref 27), (1, .ref 33)], [], 0, 0) 26 2 (fun _ => rfl) h) ?_
              exact pj_X_sub [(0, .ref 27), (1, .ref 33), (2, .int z44), (3, .int z45)] (show List.Nodup [0, 1, 2, 3] by decide) ⟨rfl, rfl, rfl, rfl, trivial⟩ (ih G43 iG43 kG43 z44 z45 ⟨by omega, by omega⟩ ⟨by omega, by omega⟩ (by omega))
      · refine pj_X_of (fun r h => pj_R_to (G, 39, [(0, .ref 27), (1, .ref 33), (2, .int v2), (3, .int v3)], [.int v3, .ref 29], 0, 0) 39 2 (fun _ => rfl) h) ?_
        refine pj_X_of (fun r h => pj_T_il hI rfl rfl (by omega) (by omega) h) ?_
        show pj_X _ _ G 40 [(0, .ref 27), (1, .ref 33), (2, .int v2), (3, .int v3)] [.int (pj_ai G 29 v3.toInt.toNat)] _
        obtain ⟨z46, hz46⟩ : ∃ z : Int32, z = pj_ai G 29 v3.toInt.toNat := ⟨_, rfl⟩
        rw [← hz46]
        have ez46 : (pj_ai G 29 v3.toInt.toNat).toInt = z46.toInt := by rw [hz46]
        have fz46_0 : (0 : Int) ≤ z46.toInt ∧ z46.toInt ≤ 3255 ∧ (z46.toInt ≤ 1006 ∨ 2000 ≤ z46.toInt) := by rw [hz46]; exact hI.2.2.1 29 (40, 0, 3255, 1006, 2000) rfl _ (by show _ < 40; omega)
        refine pj_X_of (fun r h => pj_R_to (G, 47, [(4, .int z46), (0, .ref 27), (1, .ref 33), (2, .int v2), (3, .int v3)], [.int ((Int16.ofInt 2000).toInt32), .int z46], 0, 0) 47 4 (fun _ => rfl) h) ?_
        cases b47 : pj_c1 .ge z46 ((Int16.ofInt 2000).toInt32) with
        | true =>
          have ub47 := pj_u_geT b47
          refine pj_X_of (fun r h => pj_R_icT 89 rfl rfl b47 h) ?_
          refine pj_X_of (fun r h => pj_R_to (G, 94, [(4, .int z46), (0, .ref 27), (1, .ref 33), (2, .int v2), (3, .int v3)], [.int ((Int16.ofInt 2000).toInt32), .int z46], 0, 0) 94 3 (fun _ => rfl) h) ?_
          cases b48 : pj_c1 .ne z46 ((Int16.ofInt 2000).toInt32) with
          | true =>
            have ub48 := pj_u_neT b48
            refine pj_X_of (fun r h => pj_R_icT 121 rfl rfl b48 h) ?_
            refine pj_X_of (fun r h => pj_R_to (G, 123, [(4, .int z46), (0, .ref 27), (1, .ref 33), (2, .int v2), (3, .int v3)], [.int (Int32.ofInt 1), .int v2], 0, 0) 123 3 (fun _ => rfl) h) ?_
            cases b49 : pj_c1 .le v2 (Int32.ofInt 1) with
            | true =>
              have ub49 := pj_u_leT b49
              refine pj_X_of (fun r h => pj_R_icT 160 rfl rfl b49 h) ?_
              refine pj_X_of (fun r h => pj_R_to (G, 163, [(3, .int (v3 + Int32.ofInt 1)), (4, .int z46), (0, .ref 27), (1, .ref 33), (2, .int v2)], [], 0, 0) 163 2 (fun _ => rfl) h) ?_
              obtain ⟨z50, hz50⟩ : ∃ z : Int32, z = v3 + Int32.ofInt 1 := ⟨_, rfl⟩
              rw [← hz50]
              have fz50_0 : z50.toInt = v3.toInt + (Int32.ofInt 1).toInt := by rw [hz50]; exact pj_addI (by have := pj_i32 v3; have := pj_i32 (Int32.ofInt 1); omega) (by have := pj_i32 v3; have := pj_i32 (Int32.ofInt 1); omega)
              refine pj_X_of (fun r h => pj_R_to (G, 26, [(3, .int z50), (4, .int z46), (0, .ref 27), (1, .ref 33), (2, .int v2)], [], 0, 0) 26 2 (fun _ => rfl) h) ?_
              exact pj_X_sub [(0, .ref 27), (1, .ref 33), (2, .int v2), (3, .int z50)] (show List.Nodup [0, 1, 2, 3] by decide) ⟨rfl, rfl, rfl, rfl, trivial⟩ (ih G hI hK v2 z50 ⟨by omega, by omega⟩ ⟨by omega, by omega⟩ (by omega))
            | false =>
              have ub49 := pj_u_leF b49
              refine pj_X_of (fun r h => pj_R_icF rfl b49 h) ?_
              refine pj_X_of (fun r h => pj_R_to (G, 129, [(2, .int (v2 + Int32.ofInt (-1))), (4, .int z46), (0, .ref 27), (1, .ref 33), (3, .int v3)], [], 0, 0) 129 2 (fun _ => rfl) h) ?_
              obtain ⟨z51, hz51⟩ : ∃ z : Int32, z = v2 + Int32.ofInt (-1) := ⟨_, rfl⟩
              rw [← hz51]
              have fz51_0 : z51.toInt = v2.toInt + (Int32.ofInt (-1)).toInt := by rw [hz51]; exact pj_addI (by have := pj_i32 v2; have := pj_i32 (Int32.ofInt (-1)); omega) (by have := pj_i32 v2; have := pj_i32 (Int32.ofInt (-1)); omega)
              refine pj_X_of (fun r h => pj_R_to (G, 130, [(2, .int z51), (4, .int z46), (0, .ref 27), (1, .ref 33), (3, .int v3)], [.ref 27], 0, 0) 130 2 (fun _ => rfl) h) ?_
              refine pj_X_of (fun r h => pj_T_gr hI rfl rfl rfl h) ?_
              refine pj_X_of (fun r h => pj_R_to (G, 136, [(2, .int z51), (4, .int z46), (0, .ref 27), (1, .ref 33), (3, .int v3)], [.int (z51 - (Int32.ofInt 1)), .ref 30], 0, 0) 136 4 (fun _ => rfl) h) ?_
              obtain ⟨z52, hz52⟩ : ∃ z : Int32, z = z51 - (Int32.ofInt 1) := ⟨_, rfl⟩
              rw [← hz52]
              have fz52_0 : z52.toInt = z51.toInt - (Int32.ofInt 1).toInt := by rw [hz52]; exact pj_subI (by have := pj_i32 z51; have := pj_i32 (Int32.ofInt 1); omega) (by have := pj_i32 z51; have := pj_i32 (Int32.ofInt 1); omega)
              refine pj_X_of (fun r h => pj_R_to (G, 142, [(2, .int z51), (4, .int z46), (0, .ref 27), (1, .ref 33), (3, .int v3)], [.int (z46 - ((Int16.ofInt 3000).toInt32)), .int z52, .ref 30], 0, 0) 142 4 (fun _ => rfl) h) ?_
              obtain ⟨z53, hz53⟩ : ∃ z : Int32, z = z46 - ((Int16.ofInt 3000).toInt32) := ⟨_, rfl⟩
              rw [← hz53]
              have fz53_0 : z53.toInt = z46.toInt - ((Int16.ofInt 3000).toInt32).toInt := by rw [hz53]; exact pj_subI (by have := pj_i32 z46; have := pj_i32 ((Int16.ofInt 3000).toInt32); omega) (by have := pj_i32 z46; have := pj_i32 ((Int16.ofInt 3000).toInt32); omega)
              refine pj_X_of (fun r h => pj_R_to (G, 143, [(2, .int z51), (4, .int z46), (0, .ref 27), (1, .ref 33), (3, .int v3)], [.ref 27, .int z53, .int z52, .ref 30], 0, 0) 143 2 (fun _ => rfl) h) ?_
              refine pj_X_of (fun r h => pj_T_gr hI rfl rfl rfl h) ?_
              refine pj_X_of (fun r h => pj_R_to (G, 149, [(2, .int z51), (4, .int z46), (0, .ref 27), (1, .ref 33), (3, .int v3)], [.int (z51 - (Int32.ofInt 1)), .ref 30, .int z53, .int z52, .ref 30], 0, 0) 149 4 (fun _ => rfl) h) ?_
              obtain ⟨z54, hz54⟩ : ∃ z : Int32, z = z51 - (Int32.ofInt 1) := ⟨_, rfl⟩
              rw [← hz54]
              have fz54_0 : z54.toInt = z51.toInt - (Int32.ofInt 1).toInt := by rw [hz54]; exact pj_subI (by have := pj_i32 z51; have := pj_i32 (Int32.ofInt 1); omega) (by have := pj_i32 z51; have := pj_i32 (Int32.ofInt 1); omega)
              refine pj_X_of (fun r h => pj_T_il hI rfl rfl (by omega) (by omega) h) ?_
              show pj_X _ _ G 150 [(2, .int z51), (4, .int z46), (0, .ref 27), (1, .ref 33), (3, .int v3)] [.int (pj_ai G 30 z54.toInt.toNat), .int z53, .int z52, .ref 30] _
              obtain ⟨z55, hz55⟩ : ∃ z : Int32, z = pj_ai G 30 z54.toInt.toNat := ⟨_, rfl⟩
              rw [← hz55]
              have ez55 : (pj_ai G 30 z54.toInt.toNat).toInt = z55.toInt := by rw [hz55]
              refine pj_X_of (fun r h => pj_R_to (G, 151, [(2, .int z51), (4, .int z46), (0, .ref 27), (1, .ref 33), (3, .int v3)], [.ref 27, .int z55, .int z53, .int z52, .ref 30], 0, 0) 151 2 (fun _ => rfl) h) ?_
              refine pj_X_of (fun r h => pj_T_gr hI rfl rfl rfl h) ?_
              refine pj_X_of (fun r h => pj_R_to (G, 155, [(2, .int z51), (4, .int z46), (0, .ref 27), (1, .ref 33), (3, .int v3)], [.int z51, .ref 30, .int z55, .int z53, .int z52, .ref 30], 0, 0) 155 2 (fun _ => rfl) h) ?_
              refine pj_X_of (fun r h => pj_T_il hI rfl rfl (by omega) (by omega) h) ?_
              show pj_X _ _ G 156 [(2, .int z51), (4, .int z46), (0, .ref 27), (1, .ref 33), (3, .int v3)] [.int (pj_ai G 30 z51.toInt.toNat), .int z55, .int z53, .int z52, .ref 30] _
              obtain ⟨z56, hz56⟩ : ∃ z : Int32, z = pj_ai G 30 z51.toInt.toNat := ⟨_, rfl⟩
              rw [← hz56]
              have ez56 : (pj_ai G 30 z51.toInt.toNat).toInt = z56.toInt := by rw [hz56]
              refine pj_X_ca (vs := [.int z53, .int z55, .int z56]) rfl (fun _ => rfl) ⟨Nat.le_of_ble_eq_true rfl, Nat.le_of_ble_eq_true rfl, rfl⟩ ⟨rfl, rfl⟩ (pj_Y_up (by decide) (ct_66 G hI z53 z55 z56)) ?_
              rintro _ _ ⟨y57, rfl, rfl, ry57⟩
              show pj_X _ _ G 159 [(2, .int z51), (4, .int z46), (0, .ref 27), (1, .ref 33), (3, .int v3)] [.int y57, .int z52, .ref 30] _
              refine pj_X_of (fun r h => pj_T_is hI rfl rfl (by omega) (by omega) h) ?_
              show pj_X _ _ (pj_wa G 30 z52.toInt.toNat y57) 160 [(2, .int z51), (4, .int z46), (0, .ref 27), (1, .ref 33), (3, .int v3)] [] _
              obtain ⟨G58, hG58⟩ : ∃ H, H = pj_wa G 30 z52.toInt.toNat y57 := ⟨_, rfl⟩
              have iG58 : pj_Inv G58 := by rw [hG58]; exact pj_Inv_wa hI rfl (fun q hq => by cases hq) (fun n hn => by cases hn)
              have kG58 : pj_kpt kc_65 G0 G58 := by rw [hG58]; exact pj_kpt_a hK rfl
              rw [← hG58]
              refine pj_X_of (fun r h => pj_R_to (G58, 163, [(3, .int (v3 + Int32.ofInt 1)), (2, .int z51), (4, .int z46), (0, .ref 27), (1, .ref 33)], [], 0, 0) 163 2 (fun _ => rfl) h) ?_
              obtain ⟨z59, hz59⟩ : ∃ z : Int32, z = v3 + Int32.ofInt 1 := ⟨_, rfl⟩
              rw [← hz59]
              have fz59_0 : z59.toInt = v3.toInt + (Int32.ofInt 1).toInt := by rw [hz59]; exact pj_addI (by have := pj_i32 v3; have := pj_i32 (Int32.ofInt 1); omega) (by have := pj_i32 v3; have := pj_i32 (Int32.ofInt 1); omega)
              refine pj_X_of (fun r h => pj_R_to (G58, 26, [(3, .int z59), (2, .int z51), (4, .int z46), (0, .ref 27), (1, .ref 33)], [], 0, 0) 26 2 (fun _ => rfl) h) ?_
              exact pj_X_sub [(0, .ref 27), (1, .ref 33), (2, .int z51), (3, .int z59)] (show List.Nodup [0, 1, 2, 3] by decide) ⟨rfl, rfl, rfl, rfl, trivial⟩ (ih G58 iG58 kG58 z51 z59 ⟨by omega, by omega⟩ ⟨by omega, by omega⟩ (by omega))
          | false =>
            have ub48 := pj_u_neF b48
            refine pj_X_of (fun r h => pj_R_icF rfl b48 h) ?_
            refine pj_X_of (fun r h => pj_R_to (G, 98, [(4, .int z46), (0, .ref 27), (1, .ref 33), (2, .int v2), (3, .int v3)], [.int v2], 0, 0) 98 2 (fun _ => rfl) h) ?_
            cases b60 : pj_c1 .le v2 0 with
            | true =>
              have ub60 := pj_u0_leT b60
              refine pj_X_of (fun r h => pj_R_ifT 121 rfl rfl b60 h) ?_
              refine pj_X_of (fun r h => pj_R_to (G, 123, [(4, .int z46), (0, .ref 27), (1, .ref 33), (2, .int v2), (3, .int v3)], [.int (Int32.ofInt 1), .int v2], 0, 0) 123 3 (fun _ => rfl) h) ?_
              refine pj_X_of (fun r h => pj_R_icT 160 rfl rfl (pj_b_leT (by omega)) h) ?_
              refine pj_X_of (fun r h => pj_R_to (G, 163, [(3, .int (v3 + Int32.ofInt 1)), (4, .int z46), (0, .ref 27), (1, .ref 33), (2, .int v2)], [], 0, 0) 163 2 (fun _ => rfl) h) ?_
              obtain ⟨z61, hz61⟩ : ∃ z : Int32, z = v3 + Int32.ofInt 1 := ⟨_, rfl⟩
              rw [← hz61]
              have fz61_0 : z61.toInt = v3.toInt + (Int32.ofInt 1).toInt := by rw [hz61]; exact pj_addI (by have := pj_i32 v3; have := pj_i32 (Int32.ofInt 1); omega) (by have := pj_i32 v3; have := pj_i32 (Int32.ofInt 1); omega)
              refine pj_X_of (fun r h => pj_R_to (G, 26, [(3, .int z61), (4, .int z46), (0, .ref 27), (1, .ref 33), (2, .int v2)], [], 0, 0) 26 2 (fun _ => rfl) h) ?_
              exact pj_X_sub [(0, .ref 27), (1, .ref 33), (2, .int v2), (3, .int z61)] (show List.Nodup [0, 1, 2, 3] by decide) ⟨rfl, rfl, rfl, rfl, trivial⟩ (ih G hI hK v2 z61 ⟨by omega, by omega⟩ ⟨by omega, by omega⟩ (by omega))
            | false =>
              have ub60 := pj_u0_leF b60
              refine pj_X_of (fun r h => pj_R_ifF rfl b60 h) ?_
              refine pj_X_of (fun r h => pj_R_to (G, 102, [(4, .int z46), (0, .ref 27), (1, .ref 33), (2, .int v2), (3, .int v3)], [.ref 27], 0, 0) 102 2 (fun _ => rfl) h) ?_
              refine pj_X_of (fun r h => pj_T_gr hI rfl rfl rfl h) ?_
              refine pj_X_of (fun r h => pj_R_to (G, 108, [(4, .int z46), (0, .ref 27), (1, .ref 33), (2, .int v2), (3, .int v3)], [.int (v2 - (Int32.ofInt 1)), .ref 30], 0, 0) 108 4 (fun _ => rfl) h) ?_
              obtain ⟨z62, hz62⟩ : ∃ z : Int32, z = v2 - (Int32.ofInt 1) := ⟨_, rfl⟩
              rw [← hz62]
              have fz62_0 : z62.toInt = v2.toInt - (Int32.ofInt 1).toInt := by rw [hz62]; exact pj_subI (by have := pj_i32 v2; have := pj_i32 (Int32.ofInt 1); omega) (by have := pj_i32 v2; have := pj_i32 (Int32.ofInt 1); omega)
              refine pj_X_of (fun r h => pj_R_to (G, 109, [(4, .int z46), (0, .ref 27), (1, .ref 33), (2, .int v2), (3, .int v3)], [.ref 27, .int z62, .ref 30], 0, 0) 109 2 (fun _ => rfl) h) ?_
              refine pj_X_of (fun r h => pj_T_gr hI rfl rfl rfl h) ?_
              refine pj_X_of (fun r h => pj_R_to (G, 115, [(4, .int z46), (0, .ref 27), (1, .ref 33), (2, .int v2), (3, .int v3)], [.int (v2 - (Int32.ofInt 1)), .ref 30, .int z62, .ref 30], 0, 0) 115 4 (fun _ => rfl) h) ?_
              obtain ⟨z63, hz63⟩ : ∃ z : Int32, z = v2 - (Int32.ofInt 1) := ⟨_, rfl⟩
              rw [← hz63]
              have fz63_0 : z63.toInt = v2.toInt - (Int32.ofInt 1).toInt := by rw [hz63]; exact pj_subI (by have := pj_i32 v2; have := pj_i32 (Int32.ofInt 1); omega) (by have := pj_i32 v2; have := pj_i32 (Int32.ofInt 1); omega)
              refine pj_X_of (fun r h => pj_T_il hI rfl rfl (by omega) (by omega) h) ?_
              show pj_X _ _ G 116 [(4, .int z46), (0, .ref 27), (1, .ref 33), (2, .int v2), (3, .int v3)] [.int (pj_ai G 30 z63.toInt.toNat), .int z62, .ref 30] _
              obtain ⟨z64, hz64⟩ : ∃ z : Int32, z = pj_ai G 30 z63.toInt.toNat := ⟨_, rfl⟩
              rw [← hz64]
              have ez64 : (pj_ai G 30 z63.toInt.toNat).toInt = z64.toInt := by rw [hz64]
              refine pj_X_of (fun r h => pj_R_to (G, 117, [(4, .int z46), (0, .ref 27), (1, .ref 33), (2, .int v2), (3, .int v3)], [.int (-z64), .int z62, .ref 30], 0, 0) 117 2 (fun _ => rfl) h) ?_
              obtain ⟨z65, hz65⟩ : ∃ z : Int32, z = -z64 := ⟨_, rfl⟩
              rw [← hz65]
              refine pj_X_of (fun r h => pj_T_is hI rfl rfl (by omega) (by omega) h) ?_
              show pj_X _ _ (pj_wa G 30 z62.toInt.toNat z65) 118 [(4, .int z46), (0, .ref 27), (1, .ref 33), (2, .int v2), (3, .int v3)] [] _
              obtain ⟨G66, hG66⟩ : ∃ H, H = pj_wa G 30 z62.toInt.toNat z65 := ⟨_, rfl⟩
              have iG66 : pj_Inv G66 := by rw [hG66]; exact pj_Inv_wa hI rfl (fun q hq => by cases hq) (fun n hn => by cases hn)
              have kG66 : pj_kpt kc_65 G0 G66 := by rw [hG66]; exact pj_kpt_a hK rfl
              rw [← hG66]
              refine pj_X_of (fun r h => pj_R_to (G66, 163, [(3, .int (v3 + Int32.ofInt 1)), (4, .int z46), (0, .ref 27), (1, .ref 33), (2, .int v2)], [], 0, 0) 163 3 (fun _ => rfl) h) ?_
              obtain ⟨z67, hz67⟩ : ∃ z : Int32, z = v3 + Int32.ofInt 1 := ⟨_, rfl⟩
              rw [← hz67]
              have fz67_0 : z67.toInt = v3.toInt + (Int32.ofInt 1).toInt := by rw [hz67]; exact pj_addI (by have := pj_i32 v3; have := pj_i32 (Int32.ofInt 1); omega) (by have := pj_i32 v3; have := pj_i32 (Int32.ofInt 1); omega)
              refine pj_X_of (fun r h => pj_R_to (G66, 26, [(3, .int z67), (4, .int z46), (0, .ref 27), (1, .ref 33), (2, .int v2)], [], 0, 0) 26 2 (fun _ => rfl) h) ?_
              exact pj_X_sub [(0, .ref 27), (1, .ref 33), (2, .int v2), (3, .int z67)] (show List.Nodup [0, 1, 2, 3] by decide) ⟨rfl, rfl, rfl, rfl, trivial⟩ (ih G66 iG66 kG66 v2 z67 ⟨by omega, by omega⟩ ⟨by omega, by omega⟩ (by omega))
        | false =>
          have ub47 := pj_u_geF b47
          refine pj_X_of (fun r h => pj_R_icF rfl b47 h) ?_
          refine pj_X_of (fun r h => pj_R_to (G, 53, [(4, .int z46), (0, .ref 27), (1, .ref 33), (2, .int v2), (3, .int v3)], [.int ((Int8.ofInt 40).toInt32), .int v2], 0, 0) 53 3 (fun _ => rfl) h) ?_
          cases b68 : pj_c1 .ge v2 ((Int8.ofInt 40).toInt32) with
          | true =>
            have ub68 := pj_u_geT b68
            refine pj_X_of (fun r h => pj_R_icT 89 rfl rfl b68 h) ?_
            refine pj_X_of (fun r h => pj_R_to (G, 94, [(4, .int z46), (0, .ref 27), (1, .ref 33), (2, .int v2), (3, .int v3)], [.int ((Int16.ofInt 2000).toInt32), .int z46], 0, 0) 94 3 (fun _ => rfl) h) ?_
            refine pj_X_of (fun r h => pj_R_icT 121 rfl rfl (pj_b_neT (by omega)) h) ?_
            refine pj_X_of (fun r h => pj_R_to (G, 123, [(4, .int z46), (0, .ref 27), (1, .ref 33), (2, .int v2), (3, .int v3)], [.int (Int32.ofInt 1), .int v2], 0, 0) 123 3 (fun _ => rfl) h) ?_
            refine pj_X_of (fun r h => pj_R_icF rfl (pj_b_leF (by omega)) h) ?_
            refine pj_X_of (fun r h => pj_R_to (G, 129, [(2, .int (v2 + Int32.ofInt (-1))), (4, .int z46), (0, .ref 27), (1, .ref 33), (3, .int v3)], [], 0, 0) 129 2 (fun _ => rfl) h) ?_
            obtain ⟨z69, hz69⟩ : ∃ z : Int32, z = v2 + Int32.ofInt (-1) := ⟨_, rfl⟩
            rw [← hz69]
            have fz69_0 : z69.toInt = v2.toInt + (Int32.ofInt (-1)).toInt := by rw [hz69]; exact pj_addI (by have := pj_i32 v2; have := pj_i32 (Int32.ofInt (-1)); omega) (by have := pj_i32 v2; have := pj_i32 (Int32.ofInt (-1)); omega)
            refine pj_X_of (fun r h => pj_R_to (G, 130, [(2, .int z69), (4, .int z46), (0, .ref 27), (1, .ref 33), (3, .int v3)], [.ref 27], 0, 0) 130 2 (fun _ => rfl) h) ?_
            refine pj_X_of (fun r h => pj_T_gr hI rfl rfl rfl h) ?_
            refine pj_X_of (fun r h => pj_R_to (G, 136, [(2, .int z69), (4, .int z46), (0, .ref 27), (1, .ref 33), (3, .int v3)], [.int (z69 - (Int32.ofInt 1)), .ref 30], 0, 0) 136 4 (fun _ => rfl) h) ?_
            obtain ⟨z70, hz70⟩ : ∃ z : Int32, z = z69 - (Int32.ofInt 1) := ⟨_, rfl⟩
            rw [← hz70]
            have fz70_0 : z70.toInt = z69.toInt - (Int32.ofInt 1).toInt := by rw [hz70]; exact pj_subI (by have := pj_i32 z69; have := pj_i32 (Int32.ofInt 1); omega) (by have := pj_i32 z69; have := pj_i32 (Int32.ofInt 1); omega)
            refine pj_X_of (fun r h => pj_R_to (G, 142, [(2, .int z69), (4, .int z46), (0, .ref 27), (1, .ref 33), (3, .int v3)], [.int (z46 - ((Int16.ofInt 3000).toInt32)), .int z70, .ref 30], 0, 0) 142 4 (fun _ => rfl) h) ?_
            obtain ⟨z71, hz71⟩ : ∃ z : Int32, z = z46 - ((Int16.ofInt 3000).toInt32) := ⟨_, rfl⟩
            rw [← hz71]
            have fz71_0 : z71.toInt = z46.toInt - ((Int16.ofInt 3000).toInt32).toInt := by rw [hz71]; exact pj_subI (by have := pj_i32 z46; have := pj_i32 ((Int16.ofInt 3000).toInt32); omega) (by have := pj_i32 z46; have := pj_i32 ((Int16.ofInt 3000).toInt32); omega)
            refine pj_X_of (fun r h => pj_R_to (G, 143, [(2, .int z69), (4, .int z46), (0, .ref 27), (1, .ref 33), (3, .int v3)], [.ref 27, .int z71, .int z70, .ref 30], 0, 0) 143 2 (fun _ => rfl) h) ?_
            refine pj_X_of (fun r h => pj_T_gr hI rfl rfl rfl h) ?_
            refine pj_X_of (fun r h => pj_R_to (G, 149, [(2, .int z69), (4, .int z46), (0, .ref 27), (1, .ref 33), (3, .int v3)], [.int (z69 - (Int32.ofInt 1)), .ref 30, .int z71, .int z70, .ref 30], 0, 0) 149 4 (fun _ => rfl) h) ?_
            obtain ⟨z72, hz72⟩ : ∃ z : Int32, z = z69 - (Int32.ofInt 1) := ⟨_, rfl⟩
            rw [← hz72]
            have fz72_0 : z72.toInt = z69.toInt - (Int32.ofInt 1).toInt := by rw [hz72]; exact pj_subI (by have := pj_i32 z69; have := pj_i32 (Int32.ofInt 1); omega) (by have := pj_i32 z69; have := pj_i32 (Int32.ofInt 1); omega)
            refine pj_X_of (fun r h => pj_T_il hI rfl rfl (by omega) (by omega) h) ?_
            show pj_X _ _ G 150 [(2, .int z69), (4, .int z46), (0, .ref 27), (1, .ref 33), (3, .int v3)] [.int (pj_ai G 30 z72.toInt.toNat), .int z71, .int z70, .ref 30] _
            obtain ⟨z73, hz73⟩ : ∃ z : Int32, z = pj_ai G 30 z72.toInt.toNat := ⟨_, rfl⟩
            rw [← hz73]
            have ez73 : (pj_ai G 30 z72.toInt.toNat).toInt = z73.toInt := by rw [hz73]
            refine pj_X_of (fun r h => pj_R_to (G, 151, [(2, .int z69), (4, .int z46), (0, .ref 27), (1, .ref 33), (3, .int v3)], [.ref 27, .int z73, .int z71, .int z70, .ref 30], 0, 0) 151 2 (fun _ => rfl) h) ?_
            refine pj_X_of (fun r h => pj_T_gr hI rfl rfl rfl h) ?_
            refine pj_X_of (fun r h => pj_R_to (G, 155, [(2, .int z69), (4, .int z46), (0, .ref 27), (1, .ref 33), (3, .int v3)], [.int z69, .ref 30, .int z73, .int z71, .int z70, .ref 30], 0, 0) 155 2 (fun _ => rfl) h) ?_
            refine pj_X_of (fun r h => pj_T_il hI rfl rfl (by omega) (by omega) h) ?_
            show pj_X _ _ G 156 [(2, .int z69), (4, .int z46), (0, .ref 27), (1, .ref 33), (3, .int v3)] [.int (pj_ai G 30 z69.toInt.toNat), .int z73, .int z71, .int z70, .ref 30] _
            obtain ⟨z74, hz74⟩ : ∃ z : Int32, z = pj_ai G 30 z69.toInt.toNat := ⟨_, rfl⟩
            rw [← hz74]
            have ez74 : (pj_ai G 30 z69.toInt.toNat).toInt = z74.toInt := by rw [hz74]
            refine pj_X_ca (vs := [.int z71, .int z73, .int z74]) rfl (fun _ => rfl) ⟨Nat.le_of_ble_eq_true rfl, Nat.le_of_ble_eq_true rfl, rfl⟩ ⟨rfl, rfl⟩ (pj_Y_up (by decide) (ct_66 G hI z71 z73 z74)) ?_
            rintro _ _ ⟨y75, rfl, rfl, ry75⟩
            show pj_X _ _ G 159 [(2, .int z69), (4, .int z46), (0, .ref 27), (1, .ref 33), (3, .int v3)] [.int y75, .int z70, .ref 30] _
            refine pj_X_of (fun r h => pj_T_is hI rfl rfl (by omega) (by omega) h) ?_
            show pj_X _ _ (pj_wa G 30 z70.toInt.toNat y75) 160 [(2, .int z69), (4, .int z46), (0, .ref 27), (1, .ref 33), (3, .int v3)] [] _
            obtain ⟨G76, hG76⟩ : ∃ H, H = pj_wa G 30 z70.toInt.toNat y75 := ⟨_, rfl⟩
            have iG76 : pj_Inv G76 := by rw [hG76]; exact pj_Inv_wa hI rfl (fun q hq => by cases hq) (fun n hn => by cases hn)
            have kG76 : pj_kpt kc_65 G0 G76 := by rw [hG76]; exact pj_kpt_a hK rfl
            rw [← hG76]
            refine pj_X_of (fun r h => pj_R_to (G76, 163, [(3, .int (v3 + Int32.ofInt 1)), (2, .int z69), (4, .int z46), (0, .ref 27), (1, .ref 33)], [], 0, 0) 163 2 (fun _ => rfl) h) ?_
            obtain ⟨z77, hz77⟩ : ∃ z : Int32, z = v3 + Int32.ofInt 1 := ⟨_, rfl⟩
            rw [← hz77]
            have fz77_0 : z77.toInt = v3.toInt + (Int32.ofInt 1).toInt := by rw [hz77]; exact pj_addI (by have := pj_i32 v3; have := pj_i32 (Int32.ofInt 1); omega) (by have := pj_i32 v3; have := pj_i32 (Int32.ofInt 1); omega)
            refine pj_X_of (fun r h => pj_R_to (G76, 26, [(3, .int z77), (2, .int z69), (4, .int z46), (0, .ref 27), (1, .ref 33)], [], 0, 0) 26 2 (fun _ => rfl) h) ?_
            exact pj_X_sub [(0, .ref 27), (1, .ref 33), (2, .int z69), (3, .int z77)] (show List.Nodup [0, 1, 2, 3] by decide) ⟨rfl, rfl, rfl, rfl, trivial⟩ (ih G76 iG76 kG76 z69 z77 ⟨by omega, by omega⟩ ⟨by omega, by omega⟩ (by omega))
          | false =>
            have ub68 := pj_u_geF b68
            refine pj_X_of (fun r h => pj_R_icF rfl b68 h) ?_
            refine pj_X_of (fun r h => pj_R_to (G, 57, [(4, .int z46), (0, .ref 27), (1, .ref 33), (2, .int v2), (3, .int v3)], [.ref 27], 0, 0) 57 2 (fun _ => rfl) h) ?_
            refine pj_X_of (fun r h => pj_T_gr hI rfl rfl rfl h) ?_
            refine pj_X_of (fun r h => pj_R_to (G, 66, [(4, .int z46), (0, .ref 27), (1, .ref 33), (2, .int v2), (3, .int v3)], [.int ((Int16.ofInt 1000).toInt32), .int z46, .int v2, .ref 30], 0, 0) 66 4 (fun _ => rfl) h) ?_
            cases b78 : pj_c1 .ge z46 ((Int16.ofInt 1000).toInt32) with
            | true =>
              have ub78 := pj_u_geT b78
              refine pj_X_of (fun r h => pj_R_icT 74 rfl rfl b78 h) ?_
              refine pj_X_of (fun r h => pj_R_to (G, 81, [(4, .int z46), (0, .ref 27), (1, .ref 33), (2, .int v2), (3, .int v3)], [.int (z46 - ((Int16.ofInt 1000).toInt32)), .ref 33, .int v2, .ref 30], 0, 0) 81 5 (fun _ => rfl) h) ?_
              obtain ⟨z79, hz79⟩ : ∃ z : Int32, z = z46 - ((Int16.ofInt 1000).toInt32) := ⟨_, rfl⟩
              rw [← hz79]
              have fz79_0 : z79.toInt = z46.toInt - ((Int16.ofInt 1000).toInt32).toInt := by rw [hz79]; exact pj_subI (by have := pj_i32 z46; have := pj_i32 ((Int16.ofInt 1000).toInt32); omega) (by have := pj_i32 z46; have := pj_i32 ((Int16.ofInt 1000).toInt32); omega)
              refine pj_X_of (fun r h => pj_T_il hI rfl rfl (by omega) (by omega) h) ?_
              show pj_X _ _ G 82 [(4, .int z46), (0, .ref 27), (1, .ref 33), (2, .int v2), (3, .int v3)] [.int (pj_ai G 33 z79.toInt.toNat), .int v2, .ref 30] _
              obtain ⟨z80, hz80⟩ : ∃ z : Int32, z = pj_ai G 33 z79.toInt.toNat := ⟨_, rfl⟩
              rw [← hz80]
              have ez80 : (pj_ai G 33 z79.toInt.toNat).toInt = z80.toInt := by rw [hz80]
              refine pj_X_of (fun r h => pj_T_is hI rfl rfl (by omega) (by omega) h) ?_
              show pj_X _ _ (pj_wa G 30 v2.toInt.toNat z80) 83 [(4, .int z46), (0, .ref 27), (1, .ref 33), (2, .int v2), (3, .int v3)] [] _
              obtain ⟨G81, hG81⟩ : ∃ H, H = pj_wa G 30 v2.toInt.toNat z80 := ⟨_, rfl⟩
              have iG81 : pj_Inv G81 := by rw [hG81]; exact pj_Inv_wa hI rfl (fun q hq => by cases hq) (fun n hn => by cases hn)
              have kG81 : pj_kpt kc_65 G0 G81 := by rw [hG81]; exact pj_kpt_a hK rfl
              rw [← hG81]
              refine pj_X_of (fun r h => pj_R_to (G81, 86, [(2, .int (v2 + Int32.ofInt 1)), (4, .int z46), (0, .ref 27), (1, .ref 33), (3, .int v3)], [], 0, 0) 86 2 (fun _ => rfl) h) ?_
              obtain ⟨z82, hz82⟩ : ∃ z : Int32, z = v2 + Int32.ofInt 1 := ⟨_, rfl⟩
              rw [← hz82]
              have fz82_0 : z82.toInt = v2.toInt + (Int32.ofInt 1).toInt := by rw [hz82]; exact pj_addI (by have := pj_i32 v2; have := pj_i32 (Int32.ofInt 1); omega) (by have := pj_i32 v2; have := pj_i32 (Int32.ofInt 1); omega)
              refine pj_X_of (fun r h => pj_R_to (G81, 163, [(3, .int (v3 + Int32.ofInt 1)), (2, .int z82), (4, .int z46), (0, .ref 27), (1, .ref 33)], [], 0, 0) 163 3 (fun _ => rfl) h) ?_
              obtain ⟨z83, hz83⟩ : ∃ z : Int32, z = v3 + Int32.ofInt 1 := ⟨_, rfl⟩
              rw [← hz83]
              have fz83_0 : z83.toInt = v3.toInt + (Int32.ofInt 1).toInt := by rw [hz83]; exact pj_addI (by have := pj_i32 v3; have := pj_i32 (Int32.ofInt 1); omega) (by have := pj_i32 v3; have := pj_i32 (Int32.ofInt 1); omega)
              refine pj_X_of (fun r h => pj_R_to (G81, 26, [(3, .int z83), (2, .int z82), (4, .int z46), (0, .ref 27), (1, .ref 33)], [], 0, 0) 26 2 (fun _ => rfl) h) ?_
              exact pj_X_sub [(0, .ref 27), (1, .ref 33), (2, .int z82), (3, .int z83)] (show List.Nodup [0, 1, 2, 3] by decide) ⟨rfl, rfl, rfl, rfl, trivial⟩ (ih G81 iG81 kG81 z82 z83 ⟨by omega, by omega⟩ ⟨by omega, by omega⟩ (by omega))
            | false =>
              have ub78 := pj_u_geF b78
              refine pj_X_of (fun r h => pj_R_icF rfl b78 h) ?_
              refine pj_X_of (fun r h => pj_R_to (G, 82, [(4, .int z46), (0, .ref 27), (1, .ref 33), (2, .int v2), (3, .int v3)], [.int z46, .int v2, .ref 30], 0, 0) 82 3 (fun _ => rfl) h) ?_
              refine pj_X_of (fun r h => pj_T_is hI rfl rfl (by omega) (by omega) h) ?_
              show pj_X _ _ (pj_wa G 30 v2.toInt.toNat z46) 83 [(4, .int z46), (0, .ref 27), (1, .ref 33), (2, .int v2), (3, .int v3)] [] _
              obtain ⟨G84, hG84⟩ : ∃ H, H = pj_wa G 30 v2.toInt.toNat z46 := ⟨_, rfl⟩
              have iG84 : pj_Inv G84 := by rw [hG84]; exact pj_Inv_wa hI rfl (fun q hq => by cases hq) (fun n hn => by cases hn)
              have kG84 : pj_kpt kc_65 G0 G84 := by rw [hG84]; exact pj_kpt_a hK rfl
              rw [← hG84]
              refine pj_X_of (fun r h => pj_R_to (G84, 86, [(2, .int (v2 + Int32.ofInt 1)), (4, .int z46), (0, .ref 27), (1, .ref 33), (3, .int v3)], [], 0, 0) 86 2 (fun _ => rfl) h) ?_
              obtain ⟨z85, hz85⟩ : ∃ z : Int32, z = v2 + Int32.ofInt 1 := ⟨_, rfl⟩
              rw [← hz85]
              have fz85_0 : z85.toInt = v2.toInt + (Int32.ofInt 1).toInt := by rw [hz85]; exact pj_addI (by have := pj_i32 v2; have := pj_i32 (Int32.ofInt 1); omega) (by have := pj_i32 v2; have := pj_i32 (Int32.ofInt 1); omega)
              refine pj_X_of (fun r h => pj_R_to (G84, 163, [(3, .int (v3 + Int32.ofInt 1)), (2, .int z85), (4, .int z46), (0, .ref 27), (1, .ref 33)], [], 0, 0) 163 3 (fun _ => rfl) h) ?_
              obtain ⟨z86, hz86⟩ : ∃ z : Int32, z = v3 + Int32.ofInt 1 := ⟨_, rfl⟩
              rw [← hz86]
              have fz86_0 : z86.toInt = v3.toInt + (Int32.ofInt 1).toInt := by rw [hz86]; exact pj_addI (by have := pj_i32 v3; have := pj_i32 (Int32.ofInt 1); omega) (by have := pj_i32 v3; have := pj_i32 (Int32.ofInt 1); omega)
              refine pj_X_of (fun r h => pj_R_to (G84, 26, [(3, .int z86), (2, .int z85), (4, .int z46), (0, .ref 27), (1, .ref 33)], [], 0, 0) 26 2 (fun _ => rfl) h) ?_
              exact pj_X_sub [(0, .ref 27), (1, .ref 33), (2, .int z85), (3, .int z86)] (show List.Nodup [0, 1, 2, 3] by decide) ⟨rfl, rfl, rfl, rfl, trivial⟩ (ih G84 iG84 kG84 z85 z86 ⟨by omega, by omega⟩ ⟨by omega, by omega⟩ (by omega))
theorem ct_65 (G0 : pj_G) (hI : pj_Inv G0) : pj_Y 2 65 [.ref 27, .ref 33] G0 (fun v G' => ∃ y : Int32, v = some (.int y) ∧ pj_Inv G' ∧ pj_kpt kc_65 G0 G' ∧ ((-2147483648 : Int) ≤ y.toInt ∧ y.toInt ≤ 2147483647)) := by
  have c0_ : ((Int16.ofInt 1000).toInt32).toInt = 1000 := by decide
  have c1_ : ((Int16.ofInt 2000).toInt32).toInt = 2000 := by decide
  have c2_ : ((Int16.ofInt 3000).toInt32).toInt = 3000 := by decide
  have c3_ : ((Int8.ofInt 40).toInt32).toInt = 40 := by decide
  have c4_ : ((Int8.ofInt 9).toInt32).toInt = 9 := by decide
  have c5_ : (Int32.ofInt (-1)).toInt = -1 := by decide
  have c6_ : (Int32.ofInt 0).toInt = 0 := by decide
  have c7_ : (Int32.ofInt 1).toInt = 1 := by decide
  have c8_ : (Int32.ofInt 2).toInt = 2 := by decide
  refine pj_Y_X (M := pj_m65) rfl rfl (Nat.le_of_ble_eq_true rfl) ?_
  have hK : pj_kpt kc_65 G0 G0 := pj_kpt_r _ _
  show pj_X _ _ G0 0 [(0, .ref 27), (1, .ref 33)] [] _
  refine pj_X_of (fun r h => pj_R_to (G0, 1, [(0, .ref 27), (1, .ref 33)], [.ref 27], 0, 0) 1 2 (fun _ => rfl) h) ?_
  refine pj_X_of (fun r h => pj_T_gi hI rfl rfl h) ?_
  show pj_X _ _ G0 4 [(0, .ref 27), (1, .ref 33)] [.int (pj_fi G0 27 1)] _
  obtain ⟨y87, hy87⟩ : ∃ z : Int32, z = pj_fi G0 27 1 := ⟨_, rfl⟩
  rw [← hy87]
  have ey87 : (pj_fi G0 27 1).toInt = y87.toInt := by rw [hy87]
  have ry87 : (0 : Int) ≤ y87.toInt ∧ y87.toInt ≤ 40 := by rw [hy87]; exact hI.2.1 27 1 (0, 40) rfl
  cases b88 : pj_c1 .ne y87 0 with
  | true =>
    have ub88 := pj_u0_neT b88
    refine pj_X_of (fun r h => pj_R_ifT 22 rfl rfl b88 h) ?_
    refine pj_X_of (fun r h => pj_R_to (G0, 26, [(3, .int (Int32.ofInt 0)), (2, .int (Int32.ofInt 0)), (0, .ref 27), (1, .ref 33)], [], 0, 0) 26 5 (fun _ => rfl) h) ?_
    exact pj_X_sub [(0, .ref 27), (1, .ref 33), (2, .int (Int32.ofInt 0)), (3, .int (Int32.ofInt 0))] (show List.Nodup [0, 1, 2, 3] by decide) ⟨rfl, rfl, rfl, rfl, trivial⟩ ((lp_ct_65 G0 hI   41) G0 hI hK (Int32.ofInt 0) (Int32.ofInt 0) ⟨by omega, by omega⟩ ⟨by omega, by omega⟩ (by omega))
  | false =>
    have ub88 := pj_u0_neF b88
    refine pj_X_of (fun r h => pj_R_ifF rfl b88 h) ?_
    refine pj_X_of (fun r h => pj_R_to (G0, 9, [(0, .ref 27), (1, .ref 33)], [.int (Int32.ofInt 0), .ref 33], 0, 0) 9 3 (fun _ => rfl) h) ?_
    refine pj_X_of (fun r h => pj_T_il hI rfl rfl (by omega) (by omega) h) ?_
    show pj_X _ _ G0 10 [(0, .ref 27), (1, .ref 33)] [.int (pj_ai G0 33 (Int32.ofInt 0).toInt.toNat)] _
    obtain ⟨z89, hz89⟩ : ∃ z : Int32, z = pj_ai G0 33 (Int32.ofInt 0).toInt.toNat := ⟨_, rfl⟩
    rw [← hz89]
    have ez89 : (pj_ai G0 33 (Int32.ofInt 0).toInt.toNat).toInt = z89.toInt := by rw [hz89]
    refine pj_X_of (fun r h => pj_R_to (G0, 12, [(0, .ref 27), (1, .ref 33)], [.int ((Int8.ofInt 9).toInt32), .int z89], 0, 0) 12 2 (fun _ => rfl) h) ?_
    refine pj_X_of (fun r h => pj_R_dv rfl (pj_nz (by omega)) h) ?_
    show pj_X _ _ G0 13 [(0, .ref 27), (1, .ref 33)] [.int (z89 / ((Int8.ofInt 9).toInt32))] _
    obtain ⟨z90, hz90⟩ : ∃ z : Int32, z = z89 / ((Int8.ofInt 9).toInt32) := ⟨_, rfl⟩
    rw [← hz90]
    refine pj_X_of (fun r h => pj_R_to (G0, 15, [(0, .ref 27), (1, .ref 33)], [.int (Int32.ofInt 1), .ref 33, .int z90], 0, 0) 15 3 (fun _ => rfl) h) ?_
    refine pj_X_of (fun r h => pj_T_il hI rfl rfl (by omega) (by omega) h) ?_
    show pj_X _ _ G0 16 [(0, .ref 27), (1, .ref 33)] [.int (pj_ai G0 33 (Int32.ofInt 1).toInt.toNat), .int z90] _
    obtain ⟨z91, hz91⟩ : ∃ z : Int32, z = pj_ai G0 33 (Int32.ofInt 1).toInt.toNat := ⟨_, rfl⟩
    rw [← hz91]
    have ez91 : (pj_ai G0 33 (Int32.ofInt 1).toInt.toNat).toInt = z91.toInt := by rw [hz91]
    refine pj_X_of (fun r h => pj_R_to (G0, 18, [(0, .ref 27), (1, .ref 33)], [.int (z91 * (Int32.ofInt 2)), .int z90], 0, 0) 18 3 (fun _ => rfl) h) ?_
    obtain ⟨z92, hz92⟩ : ∃ z : Int32, z = z91 * (Int32.ofInt 2) := ⟨_, rfl⟩
    rw [← hz92]
    refine pj_X_of (fun r h => pj_R_to (G0, 19, [(0, .ref 27), (1, .ref 33)], [.int (z90 + z92)], 0, 0) 19 2 (fun _ => rfl) h) ?_
    obtain ⟨z93, hz93⟩ : ∃ z : Int32, z = z90 + z92 := ⟨_, rfl⟩
    rw [← hz93]
    refine pj_X_of (fun r h => pj_R_to (G0, 21, [(0, .ref 27), (1, .ref 33)], [.int (z93 + (Int32.ofInt 1))], 0, 0) 21 3 (fun _ => rfl) h) ?_
    obtain ⟨z94, hz94⟩ : ∃ z : Int32, z = z93 + (Int32.ofInt 1) := ⟨_, rfl⟩
    rw [← hz94]
    exact pj_X_rt rfl rfl ⟨_, rfl, hI, hK, pj_i32 _⟩
def kc_101 : pj_KT := ([], [30, 33], [30, 33])
theorem ct_101 (G0 : pj_G) (hI : pj_Inv G0) (b : Int32) (c : Int32) (rb : (0 : Int) ≤ b.toInt ∧ b.toInt ≤ 5) (rc : (-1 : Int) ≤ c.toInt ∧ c.toInt ≤ 9) : pj_Y 3 101 [.ref 6, .int b, .int c] G0 (fun v G' => ∃ y : Int32, v = some (.int y) ∧ pj_Inv G' ∧ pj_kpt kc_101 G0 G' ∧ ((1 : Int) ≤ y.toInt ∧ y.toInt ≤ 99)) := by
  have c0_ : ((Int8.ofInt 24).toInt32).toInt = 24 := by decide
  have c1_ : ((Int8.ofInt 6).toInt32).toInt = 6 := by decide
  have c2_ : ((Int8.ofInt 99).toInt32).toInt = 99 := by decide
  have c3_ : (Int32.ofInt (-1)).toInt = -1 := by decide
  have c4_ : (Int32.ofInt 0).toInt = 0 := by decide
  have c5_ : (Int32.ofInt 1).toInt = 1 := by decide
  have c6_ : (Int32.ofInt 2).toInt = 2 := by decide
  have c7_ : (Int32.ofInt 3).toInt = 3 := by decide
  have c8_ : (Int32.ofInt 4).toInt = 4 := by decide
  have c9_ : (Int32.ofInt 5).toInt = 5 := by decide
  refine pj_Y_X (M := pj_m101) rfl rfl (Nat.le_of_ble_eq_true rfl) ?_
  have hK : pj_kpt kc_101 G0 G0 := pj_kpt_r _ _
  show pj_X _ _ G0 0 [(0, .ref 6), (1, .int b), (2, .int c)] [] _
  refine pj_X_of (fun r h => pj_R_to (G0, 2, [(0, .ref 6), (1, .int b), (2, .int c)], [.ref 6, .ref 6], 0, 0) 2 3 (fun _ => rfl) h) ?_
  refine pj_X_of (fun r h => pj_T_gr hI rfl rfl rfl h) ?_
  refine pj_X_of (fun r h => pj_T_gr hI rfl rfl rfl h) ?_
  refine pj_X_of (fun r h => pj_R_to (G0, 9, [(0, .ref 6), (1, .int b), (2, .int c)], [.int b, .ref 22, .ref 6], 0, 0) 9 2 (fun _ => rfl) h) ?_
  refine pj_X_of (fun r h => pj_T_il hI rfl rfl (by omega) (by omega) h) ?_
  show pj_X _ _ G0 10 [(0, .ref 6), (1, .int b), (2, .int c)] [.int (pj_ai G0 22 b.toInt.toNat), .ref 6] _
  obtain ⟨z1, hz1⟩ : ∃ z : Int32, z = pj_ai G0 22 b.toInt.toNat := ⟨_, rfl⟩
  rw [← hz1]
  have ez1 : (pj_ai G0 22 b.toInt.toNat).toInt = z1.toInt := by rw [hz1]
  have fz1_0 : (-1 : Int) ≤ z1.toInt ∧ z1.toInt ≤ 9 ∧ (z1.toInt ≤ -1 ∨ -1 ≤ z1.toInt) := by rw [hz1]; exact hI.2.2.1 22 (6, -1, 9, -1, -1) rfl _ (by show _ < 6; omega)
  refine pj_X_ca (vs := [.ref 6, .int z1]) rfl (fun _ => rfl) ⟨Nat.le_of_ble_eq_true rfl, Nat.le_of_ble_eq_true rfl, pj_T_rcv hI rfl⟩ ⟨rfl, rfl⟩ (pj_Y_up (by decide) (ct_100 G0 hI z1 ⟨by omega, by omega⟩)) ?_
  rintro _ _ ⟨y2, rfl, rfl, ry2⟩
  show pj_X _ _ G0 13 [(0, .ref 6), (1, .int b), (2, .int c)] [.int y2] _
  refine pj_X_of (fun r h => pj_R_to (G0, 16, [(3, .int y2), (0, .ref 6), (1, .int b), (2, .int c)], [.int c, .ref 6], 0, 0) 16 4 (fun _ => rfl) h) ?_
  refine pj_X_ca (vs := [.ref 6, .int c]) rfl (fun _ => rfl) ⟨Nat.le_of_ble_eq_true rfl, Nat.le_of_ble_eq_true rfl, pj_T_rcv hI rfl⟩ ⟨rfl, rfl⟩ (pj_Y_up (by decide) (ct_100 G0 hI c ⟨by omega, by omega⟩)) ?_
  rintro _ _ ⟨y3, rfl, rfl, ry3⟩
  show pj_X _ _ G0 19 [(3, .int y2), (0, .ref 6), (1, .int b), (2, .int c)] [.int y3] _
  refine pj_X_of (fun r h => pj_R_to (G0, 22, [(4, .int y3), (3, .int y2), (0, .ref 6), (1, .int b), (2, .int c)], [.ref 6], 0, 0) 22 3 (fun _ => rfl) h) ?_
  refine pj_X_of (fun r h => pj_T_gr hI rfl rfl rfl h) ?_
  refine pj_X_of (fun r h => pj_R_to (G0, 30, [(4, .int y3), (3, .int y2), (0, .ref 6), (1, .int b), (2, .int c)], [.int (y3 - y2), .int (Int32.ofInt 0), .ref 33], 0, 0) 30 5 (fun _ => rfl) h) ?_
  obtain ⟨z4, hz4⟩ : ∃ z : Int32, z = y3 - y2 := ⟨_, rfl⟩
  rw [← hz4]
  refine pj_X_of (fun r h => pj_R_ab (v := (if 0 ≤ z4 then z4 else 0 - z4)) rfl rfl rfl (Nat.le_of_ble_eq_true rfl) h) ?_
  show pj_X _ _ G0 33 [(4, .int y3), (3, .int y2), (0, .ref 6), (1, .int b), (2, .int c)] [.int (if 0 ≤ z4 then z4 else 0 - z4), .int (Int32.ofInt 0), .ref 33] _
  obtain ⟨z5, hz5⟩ : ∃ z : Int32, z = (if 0 ≤ z4 then z4 else 0 - z4) := ⟨_, rfl⟩
  rw [← hz5]
  refine pj_X_of (fun r h => pj_T_is hI rfl rfl (by omega) (by omega) h) ?_
  show pj_X _ _ (pj_wa G0 33 (Int32.ofInt 0).toInt.toNat z5) 34 [(4, .int y3), (3, .int y2), (0, .ref 6), (1, .int b), (2, .int c)] [] _
  obtain ⟨G6, hG6⟩ : ∃ H, H = pj_wa G0 33 (Int32.ofInt 0).toInt.toNat z5 := ⟨_, rfl⟩
  have iG6 : pj_Inv G6 := by rw [hG6]; exact pj_Inv_wa hI rfl (fun q hq => by cases hq) (fun n hn => by cases hn)
  have kG6 : pj_kpt kc_101 G0 G6 := by rw [hG6]; exact pj_kpt_a hK rfl
  rw [← hG6]
  refine pj_X_of (fun r h => pj_R_to (G6, 35, [(4, .int y3), (3, .int y2), (0, .ref 6), (1, .int b), (2, .int c)], [.ref 6], 0, 0) 35 2 (fun _ => rfl) h) ?_
  refine pj_X_of (fun r h => pj_T_gr iG6 rfl rfl rfl h) ?_
  refine pj_X_of (fun r h => pj_R_to (G6, 42, [(4, .int y3), (3, .int y2), (0, .ref 6), (1, .int b), (2, .int c)], [.int y2, .int y3, .int (Int32.ofInt 1), .ref 33], 0, 0) 42 4 (fun _ => rfl) h) ?_
  cases b7 : pj_c1 .ge y3 y2 with
  | true =>
    have ub7 := pj_u_geT b7
    refine pj_X_of (fun r h => pj_R_icT 49 rfl rfl b7 h) ?_
    refine pj_X_of (fun r h => pj_R_to (G6, 50, [(4, .int y3), (3, .int y2), (0, .ref 6), (1, .int b), (2, .int c)], [.int (Int32.ofInt 0), .int (Int32.ofInt 1), .ref 33], 0, 0) 50 2 (fun _ => rfl) h) ?_
    refine pj_X_of (fun r h => pj_T_is iG6 rfl rfl (by omega) (by omega) h) ?_
    show pj_X _ _ (pj_wa G6 33 (Int32.ofInt 1).toInt.toNat (Int32.ofInt 0)) 51 [(4, .int y3), (3, .int y2), (0, .ref 6), (1, .int b), (2, .int c)] [] _
    obtain ⟨G8, hG8⟩ : ∃ H, H = pj_wa G6 33 (Int32.ofInt 1).toInt.toNat (Int32.ofInt 0) := ⟨_, rfl⟩
    have iG8 : pj_Inv G8 := by rw [hG8]; exact pj_Inv_wa iG6 rfl (fun q hq => by cases hq) (fun n hn => by cases hn)
    have kG8 : pj_kpt kc_101 G0 G8 := by rw [hG8]; exact pj_kpt_a kG6 rfl
    rw [← hG8]
    refine pj_X_of (fun r h => pj_R_to (G8, 52, [(4, .int y3), (3, .int y2), (0, .ref 6), (1, .int b), (2, .int c)], [.ref 6], 0, 0) 52 2 (fun _ => rfl) h) ?_
    refine pj_X_of (fun r h => pj_T_gr iG8 rfl rfl rfl h) ?_
    refine pj_X_of (fun r h => pj_R_to (G8, 57, [(4, .int y3), (3, .int y2), (0, .ref 6), (1, .int b), (2, .int c)], [.ref 6, .int (Int32.ofInt 2), .ref 33], 0, 0) 57 3 (fun _ => rfl) h) ?_
    refine pj_X_of (fun r h => pj_T_gr iG8 rfl rfl rfl h) ?_
    refine pj_X_of (fun r h => pj_R_to (G8, 61, [(4, .int y3), (3, .int y2), (0, .ref 6), (1, .int b), (2, .int c)], [.int b, .ref 31, .int (Int32.ofInt 2), .ref 33], 0, 0) 61 2 (fun _ => rfl) h) ?_
    refine pj_X_of (fun r h => pj_T_il iG8 rfl rfl (by omega) (by omega) h) ?_
    show pj_X _ _ G8 62 [(4, .int y3), (3, .int y2), (0, .ref 6), (1, .int b), (2, .int c)] [.int (pj_ai G8 31 b.toInt.toNat), .int (Int32.ofInt 2), .ref 33] _
    obtain ⟨z9, hz9⟩ : ∃ z : Int32, z = pj_ai G8 31 b.toInt.toNat := ⟨_, rfl⟩
    rw [← hz9]
    have ez9 : (pj_ai G8 31 b.toInt.toNat).toInt = z9.toInt := by rw [hz9]
    refine pj_X_of (fun r h => pj_T_is iG8 rfl rfl (by omega) (by omega) h) ?_
    show pj_X _ _ (pj_wa G8 33 (Int32.ofInt 2).toInt.toNat z9) 63 [(4, .int y3), (3, .int y2), (0, .ref 6), (1, .int b), (2, .int c)] [] _
    obtain ⟨G10, hG10⟩ : ∃ H, H = pj_wa G8 33 (Int32.ofInt 2).toInt.toNat z9 := ⟨_, rfl⟩
    have iG10 : pj_Inv G10 := by rw [hG10]; exact pj_Inv_wa iG8 rfl (fun q hq => by cases hq) (fun n hn => by cases hn)
    have kG10 : pj_kpt kc_101 G0 G10 := by rw [hG10]; exact pj_kpt_a kG8 rfl
    rw [← hG10]
    refine pj_X_of (fun r h => pj_R_to (G10, 64, [(4, .int y3), (3, .int y2), (0, .ref 6), (1, .int b), (2, .int c)], [.ref 6], 0, 0) 64 2 (fun _ => rfl) h) ?_
    refine pj_X_of (fun r h => pj_T_gr iG10 rfl rfl rfl h) ?_
    refine pj_X_of (fun r h => pj_R_to (G10, 69, [(4, .int y3), (3, .int y2), (0, .ref 6), (1, .int b), (2, .int c)], [.ref 6, .int (Int32.ofInt 3), .ref 33], 0, 0) 69 3 (fun _ => rfl) h) ?_
    refine pj_X_of (fun r h => pj_T_gr iG10 rfl rfl rfl h) ?_
    refine pj_X_of (fun r h => pj_T_gr iG10 rfl rfl rfl h) ?_
    refine pj_X_of (fun r h => pj_R_to (G10, 76, [(4, .int y3), (3, .int y2), (0, .ref 6), (1, .int b), (2, .int c)], [.int b, .ref 24, .int (Int32.ofInt 3), .ref 33], 0, 0) 76 2 (fun _ => rfl) h) ?_
    refine pj_X_of (fun r h => pj_T_il iG10 rfl rfl (by omega) (by omega) h) ?_
    show pj_X _ _ G10 77 [(4, .int y3), (3, .int y2), (0, .ref 6), (1, .int b), (2, .int c)] [.int (pj_ai G10 24 b.toInt.toNat), .int (Int32.ofInt 3), .ref 33] _
    obtain ⟨z11, hz11⟩ : ∃ z : Int32, z = pj_ai G10 24 b.toInt.toNat := ⟨_, rfl⟩
    rw [← hz11]
    have ez11 : (pj_ai G10 24 b.toInt.toNat).toInt = z11.toInt := by rw [hz11]
    refine pj_X_of (fun r h => pj_T_is iG10 rfl rfl (by omega) (by omega) h) ?_
    show pj_X _ _ (pj_wa G10 33 (Int32.ofInt 3).toInt.toNat z11) 78 [(4, .int y3), (3, .int y2), (0, .ref 6), (1, .int b), (2, .int c)] [] _
    obtain ⟨G12, hG12⟩ : ∃ H, H = pj_wa G10 33 (Int32.ofInt 3).toInt.toNat z11 := ⟨_, rfl⟩
    have iG12 : pj_Inv G12 := by rw [hG12]; exact pj_Inv_wa iG10 rfl (fun q hq => by cases hq) (fun n hn => by cases hn)
    have kG12 : pj_kpt kc_101 G0 G12 := by rw [hG12]; exact pj_kpt_a kG10 rfl
    rw [← hG12]
    refine pj_X_of (fun r h => pj_R_to (G12, 79, [(4, .int y3), (3, .int y2), (0, .ref 6), (1, .int b), (2, .int c)], [.ref 6], 0, 0) 79 2 (fun _ => rfl) h) ?_
    refine pj_X_of (fun r h => pj_T_gr iG12 rfl rfl rfl h) ?_
    refine pj_X_of (fun r h => pj_R_to (G12, 85, [(4, .int y3), (3, .int y2), (0, .ref 6), (1, .int b), (2, .int c)], [.int (Int32.ofInt (-1)), .int c, .int (Int32.ofInt 4), .ref 33], 0, 0) 85 4 (fun _ => rfl) h) ?_
    cases b13 : pj_c1 .ne c (Int32.ofInt (-1)) with
    | true =>
      have ub13 := pj_u_neT b13
      refine pj_X_of (fun r h => pj_R_icT 92 rfl rfl b13 h) ?_
      refine pj_X_of (fun r h => pj_R_to (G12, 93, [(4, .int y3), (3, .int y2), (0, .ref 6), (1, .int b), (2, .int c)], [.ref 6, .int (Int32.ofInt 4), .ref 33], 0, 0) 93 2 (fun _ => rfl) h) ?_
      refine pj_X_gm iG12 rfl rfl (fun q14 => ?_) (fun q14 => ?_)
      · refine pj_X_of (fun r h => pj_T_gr iG12 rfl rfl rfl h) ?_
        refine pj_X_of (fun r h => pj_R_to (G12, 100, [(4, .int y3), (3, .int y2), (0, .ref 6), (1, .int b), (2, .int c)], [.int c, .ref 11, .int (Int32.ofInt 4), .ref 33], 0, 0) 100 2 (fun _ => rfl) h) ?_
        refine pj_X_of (fun r h => pj_T_il iG12 rfl rfl (by omega) (by omega) h) ?_
        show pj_X _ _ G12 101 [(4, .int y3), (3, .int y2), (0, .ref 6), (1, .int b), (2, .int c)] [.int (pj_ai G12 11 c.toInt.toNat), .int (Int32.ofInt 4), .ref 33] _
        obtain ⟨z15, hz15⟩ : ∃ z : Int32, z = pj_ai G12 11 c.toInt.toNat := ⟨_, rfl⟩
        rw [← hz15]
        have ez15 : (pj_ai G12 11 c.toInt.toNat).toInt = z15.toInt := by rw [hz15]
        have fz15_0 : (0 : Int) ≤ z15.toInt ∧ z15.toInt ≤ 9 ∧ (z15.toInt ≤ 0 ∨ 0 ≤ z15.toInt) := by rw [hz15]; exact iG12.2.2.1 11 (10, 0, 9, 0, 0) rfl _ (by show _ < 10; omega)
        refine pj_X_of (fun r h => pj_T_is iG12 rfl rfl (by omega) (by omega) h) ?_
        show pj_X _ _ (pj_wa G12 33 (Int32.ofInt 4).toInt.toNat z15) 102 [(4, .int y3), (3, .int y2), (0, .ref 6), (1, .int b), (2, .int c)] [] _
        obtain ⟨G16, hG16⟩ : ∃ H, H = pj_wa G12 33 (Int32.ofInt 4).toInt.toNat z15 := ⟨_, rfl⟩
        have iG16 : pj_Inv G16 := by rw [hG16]; exact pj_Inv_wa iG12 rfl (fun q hq => by cases hq) (fun n hn => by cases hn)
        have kG16 : pj_kpt kc_101 G0 G16 := by rw [hG16]; exact pj_kpt_a kG12 rfl
        rw [← hG16]
        refine pj_X_of (fun r h => pj_R_to (G16, 103, [(4, .int y3), (3, .int y2), (0, .ref 6), (1, .int b), (2, .int c)], [.ref 6], 0, 0) 103 2 (fun _ => rfl) h) ?_
        refine pj_X_of (fun r h => pj_T_gr iG16 rfl rfl rfl h) ?_
        refine pj_X_of (fun r h => pj_R_to (G16, 108, [(4, .int y3), (3, .int y2), (0, .ref 6), (1, .int b), (2, .int c)], [.int b, .int (Int32.ofInt 5), .ref 33], 0, 0) 108 3 (fun _ => rfl) h) ?_
        refine pj_X_of (fun r h => pj_T_is iG16 rfl rfl (by omega) (by omega) h) ?_
        show pj_X _ _ (pj_wa G16 33 (Int32.ofInt 5).toInt.toNat b) 109 [(4, .int y3), (3, .int y2), (0, .ref 6), (1, .int b), (2, .int c)] [] _
        obtain ⟨G17, hG17⟩ : ∃ H, H = pj_wa G16 33 (Int32.ofInt 5).toInt.toNat b := ⟨_, rfl⟩
        have iG17 : pj_Inv G17 := by rw [hG17]; exact pj_Inv_wa iG16 rfl (fun q hq => by cases hq) (fun n hn => by cases hn)
        have kG17 : pj_kpt kc_101 G0 G17 := by rw [hG17]; exact pj_kpt_a kG16 rfl
        rw [← hG17]
        refine pj_X_of (fun r h => pj_R_to (G17, 110, [(4, .int y3), (3, .int y2), (0, .ref 6), (1, .int b), (2, .int c)], [.ref 6], 0, 0) 110 2 (fun _ => rfl) h) ?_
        refine pj_X_of (fun r h => pj_T_gr iG17 rfl rfl rfl h) ?_
        refine pj_X_of (fun r h => pj_R_to (G17, 116, [(4, .int y3), (3, .int y2), (0, .ref 6), (1, .int b), (2, .int c)], [.ref 6, .int ((Int8.ofInt 6).toInt32), .ref 33], 0, 0) 116 3 (fun _ => rfl) h) ?_
        refine pj_X_of (fun r h => pj_T_gr iG17 rfl rfl rfl h) ?_
        refine pj_X_of (fun r h => pj_T_gi iG17 rfl rfl h) ?_
        show pj_X _ _ G17 122 [(4, .int y3), (3, .int y2), (0, .ref 6), (1, .int b), (2, .int c)] [.int (pj_fi G17 21 7), .int ((Int8.ofInt 6).toInt32), .ref 33] _
        obtain ⟨y18, hy18⟩ : ∃ z : Int32, z = pj_fi G17 21 7 := ⟨_, rfl⟩
        rw [← hy18]
        have ey18 : (pj_fi G17 21 7).toInt = y18.toInt := by rw [hy18]
        refine pj_X_of (fun r h => pj_R_to (G17, 124, [(4, .int y3), (3, .int y2), (0, .ref 6), (1, .int b), (2, .int c)], [.int ((Int8.ofInt 24).toInt32), .int y18, .int ((Int8.ofInt 6).toInt32), .ref 33], 0, 0) 124 2 (fun _ => rfl) h) ?_
        refine pj_X_of (fun r h => pj_R_rm rfl (pj_nz (by omega)) h) ?_
        show pj_X _ _ G17 125 [(4, .int y3), (3, .int y2), (0, .ref 6), (1, .int b), (2, .int c)] [.int (y18 - y18 / ((Int8.ofInt 24).toInt32) * ((Int8.ofInt 24).toInt32)), .int ((Int8.ofInt 6).toInt32), .ref 33] _
        obtain ⟨z19, hz19⟩ : ∃ z : Int32, z = y18 - y18 / ((Int8.ofInt 24).toInt32) * ((Int8.ofInt 24).toInt32) := ⟨_, rfl⟩
        rw [← hz19]
        refine pj_X_of (fun r h => pj_T_is iG17 rfl rfl (by omega) (by omega) h) ?_
        show pj_X _ _ (pj_wa G17 33 ((Int8.ofInt 6).toInt32).toInt.toNat z19) 126 [(4, .int y3), (3, .int y2), (0, .ref 6), (1, .int b), (2, .int c)] [] _
        obtain ⟨G20, hG20⟩ : ∃ H, H = pj_wa G17 33 ((Int8.ofInt 6).toInt32).toInt.toNat z19 := ⟨_, rfl⟩
        have iG20 : pj_Inv G20 := by rw [hG20]; exact pj_Inv_wa iG17 rfl (fun q hq => by cases hq) (fun n hn => by cases hn)
        have kG20 : pj_kpt kc_101 G0 G20 := by rw [hG20]; exact pj_kpt_a kG17 rfl
        rw [← hG20]
        refine pj_X_of (fun r h => pj_R_to (G20, 130, [(4, .int y3), (3, .int y2), (0, .ref 6), (1, .int b), (2, .int c)], [.ref 6, .int ((Int8.ofInt 99).toInt32), .int (Int32.ofInt 1)], 0, 0) 130 4 (fun _ => rfl) h) ?_
        refine pj_X_of (fun r h => pj_T_gr iG20 rfl rfl rfl h) ?_
        refine pj_X_of (fun r h => pj_R_to (G20, 134, [(4, .int y3), (3, .int y2), (0, .ref 6), (1, .int b), (2, .int c)], [.ref 6, .ref 27, .int ((Int8.ofInt 99).toInt32), .int (Int32.ofInt 1)], 0, 0) 134 2 (fun _ => rfl) h) ?_
        refine pj_X_of (fun r h => pj_T_gr iG20 rfl rfl rfl h) ?_
        refine pj_X_ca (vs := [.ref 27, .ref 33]) rfl (fun _ => rfl) ⟨Nat.le_of_ble_eq_true rfl, Nat.le_of_ble_eq_true rfl, pj_T_rcv iG20 rfl⟩ ⟨rfl, rfl⟩ (pj_Y_up (by decide) (ct_65 G20 iG20)) ?_
        rintro _ G22 ⟨y21, rfl, iG22, jG22, ry21⟩
        have kG22 : pj_kpt kc_101 G0 G22 := pj_kpt_t kG20 (pj_kpt_s jG22 rfl)
        show pj_X _ _ G22 140 [(4, .int y3), (3, .int y2), (0, .ref 6), (1, .int b), (2, .int c)] [.int y21, .int ((Int8.ofInt 99).toInt32), .int (Int32.ofInt 1)] _
        refine pj_X_of (fun r h => pj_R_mn (v := (if y21 < ((Int8.ofInt 99).toInt32) then y21 else ((Int8.ofInt 99).toInt32))) rfl rfl rfl (Nat.le_of_ble_eq_true rfl) h) ?_
        show pj_X _ _ G22 143 [(4, .int y3), (3, .int y2), (0, .ref 6), (1, .int b), (2, .int c)] [.int (if y21 < ((Int8.ofInt 99).toInt32) then y21 else ((Int8.ofInt 99).toInt32)), .int (Int32.ofInt 1)] _
        obtain ⟨z23, hz23⟩ : ∃ z : Int32, z = (if y21 < ((Int8.ofInt 99).toInt32) then y21 else ((Int8.ofInt 99).toInt32)) := ⟨_, rfl⟩
        rw [← hz23]
        have fz23_0 : z23.toInt ≤ ((Int8.ofInt 99).toInt32).toInt ∧ z23.toInt ≤ y21.toInt ∧ (z23.toInt = ((Int8.ofInt 99).toInt32).toInt ∨ z23.toInt = y21.toInt) := by rw [hz23]; exact pj_minI
        refine pj_X_of (fun r h => pj_R_mx (v := (if (Int32.ofInt 1) < z23 then z23 else (Int32.ofInt 1))) rfl rfl rfl (Nat.le_of_ble_eq_true rfl) h) ?_
        show pj_X _ _ G22 146 [(4, .int y3), (3, .int y2), (0, .ref 6), (1, .int b), (2, .int c)] [.int (if (Int32.ofInt 1) < z23 then z23 else (Int32.ofInt 1))] _
        obtain ⟨z24, hz24⟩ : ∃ z : Int32, z = (if (Int32.ofInt 1) < z23 then z23 else (Int32.ofInt 1)) := ⟨_, rfl⟩
        rw [← hz24]
        have fz24_0 : (Int32.ofInt 1).toInt ≤ z24.toInt ∧ z23.toInt ≤ z24.toInt ∧ (z24.toInt = (Int32.ofInt 1).toInt ∨ z24.toInt = z23.toInt) := by rw [hz24]; exact pj_maxI
        exact pj_X_rt rfl rfl ⟨_, rfl, iG22, kG22, ⟨by omega, by omega⟩⟩
      · refine pj_X_of (fun r h => pj_T_gr iG12 rfl rfl rfl h) ?_
        refine pj_X_of (fun r h => pj_R_to (G12, 100, [(4, .int y3), (3, .int y2), (0, .ref 6), (1, .int b), (2, .int c)], [.int c, .ref 18, .int (Int32.ofInt 4), .ref 33], 0, 0) 100 2 (fun _ => rfl) h) ?_
        refine pj_X_of (fun r h => pj_T_il iG12 rfl rfl (by omega) (by omega) h) ?_
        show pj_X _ _ G12 101 [(4, .int y3), (3, .int y2), (0, .ref 6), (1, .int b), (2, .int c)] [.int (pj_ai G12 18 c.toInt.toNat), .int (Int32.ofInt 4), .ref 33] _
        obtain ⟨z25, hz25⟩ : ∃ z : Int32, z = pj_ai G12 18 c.toInt.toNat := ⟨_, rfl⟩
        rw [← hz25]
        have ez25 : (pj_ai G12 18 c.toInt.toNat).toInt = z25.toInt := by rw [hz25]
        have fz25_0 : (0 : Int) ≤ z25.toInt ∧ z25.toInt ≤ 9 ∧ (z25.toInt ≤ 0 ∨ 0 ≤ z25.toInt) := by rw [hz25]; exact iG12.2.2.1 18 (10, 0, 9, 0, 0) rfl _ (by show _ < 10; omega)
        refine pj_X_of (fun r h => pj_T_is iG12 rfl rfl (by omega) (by omega) h) ?_
        show pj_X _ _ (pj_wa G12 33 (Int32.ofInt 4).toInt.toNat z25) 102 [(4, .int y3), (3, .int y2), (0, .ref 6), (1, .int b), (2, .int c)] [] _
        obtain ⟨G26, hG26⟩ : ∃ H, H = pj_wa G12 33 (Int32.ofInt 4).toInt.toNat z25 := ⟨_, rfl⟩
        have iG26 : pj_Inv G26 := by rw [hG26]; exact pj_Inv_wa iG12 rfl (fun q hq => by cases hq) (fun n hn => by cases hn)
        have kG26 : pj_kpt kc_101 G0 G26 := by rw [hG26]; exact pj_kpt_a kG12 rfl
        rw [← hG26]
        refine pj_X_of (fun r h => pj_R_to (G26, 103, [(4, .int y3), (3, .int y2), (0, .ref 6), (1, .int b), (2, .int c)], [.ref 6], 0, 0) 103 2 (fun _ => rfl) h) ?_
        refine pj_X_of (fun r h => pj_T_gr iG26 rfl rfl rfl h) ?_
        refine pj_X_of (fun r h => pj_R_to (G26, 108, [(4, .int y3), (3, .int y2), (0, .ref 6), (1, .int b), (2, .int c)], [.int b, .int (Int32.ofInt 5), .ref 33], 0, 0) 108 3 (fun _ => rfl) h) ?_
        refine pj_X_of (fun r h => pj_T_is iG26 rfl rfl (by omega) (by omega) h) ?_
        show pj_X _ _ (pj_wa G26 33 (Int32.ofInt 5).toInt.toNat b) 109 [(4, .int y3), (3, .int y2), (0, .ref 6), (1, .int b), (2, .int c)] [] _
        obtain ⟨G27, hG27⟩ : ∃ H, H = pj_wa G26 33 (Int32.ofInt 5).toInt.toNat b := ⟨_, rfl⟩
        have iG27 : pj_Inv G27 := by rw [hG27]; exact pj_Inv_wa iG26 rfl (fun q hq => by cases hq) (fun n hn => by cases hn)
        have kG27 : pj_kpt kc_101 G0 G27 := by rw [hG27]; exact pj_kpt_a kG26 rfl
        rw [← hG27]
        refine pj_X_of (fun r h => pj_R_to (G27, 110, [(4, .int y3), (3, .int y2), (0, .ref 6), (1, .int b), (2, .int c)], [.ref 6], 0, 0) 110 2 (fun _ => rfl) h) ?_
        refine pj_X_of (fun r h => pj_T_gr iG27 rfl rfl rfl h) ?_
        refine pj_X_of (fun r h => pj_R_to (G27, 116, [(4, .int y3), (3, .int y2), (0, .ref 6), (1, .int b), (2, .int c)], [.ref 6, .int ((Int8.ofInt 6).toInt32), .ref 33], 0, 0) 116 3 (fun _ => rfl) h) ?_
        refine pj_X_of (fun r h => pj_T_gr iG27 rfl rfl rfl h) ?_
        refine pj_X_of (fun r h => pj_T_gi iG27 rfl rfl h) ?_
        show pj_X _ _ G27 122 [(4, .int y3), (3, .int y2), (0, .ref 6), (1, .int b), (2, .int c)] [.int (pj_fi G27 21 7), .int ((Int8.ofInt 6).toInt32), .ref 33] _
        obtain ⟨y28, hy28⟩ : ∃ z : Int32, z = pj_fi G27 21 7 := ⟨_, rfl⟩
        rw [← hy28]
        have ey28 : (pj_fi G27 21 7).toInt = y28.toInt := by rw [hy28]
        refine pj_X_of (fun r h => pj_R_to (G27, 124, [(4, .int y3), (3, .int y2), (0, .ref 6), (1, .int b), (2, .int c)], [.int ((Int8.ofInt 24).toInt32), .int y28, .int ((Int8.ofInt 6).toInt32), .ref 33], 0, 0) 124 2 (fun _ => rfl) h) ?_
        refine pj_X_of (fun r h => pj_R_rm rfl (pj_nz (by omega)) h) ?_
        show pj_X _ _ G27 125 [(4, .int y3), (3, .int y2), (0, .ref 6), (1, .int b), (2, .int c)] [.int (y28 - y28 / ((Int8.ofInt 24).toInt32) * ((Int8.ofInt 24).toInt32)), .int ((Int8.ofInt 6).toInt32), .ref 33] _
        obtain ⟨z29, hz29⟩ : ∃ z : Int32, z = y28 - y28 / ((Int8.ofInt 24).toInt32) * ((Int8.ofInt 24).toInt32) := ⟨_, rfl⟩
        rw [← hz29]
        refine pj_X_of (fun r h => pj_T_is iG27 rfl rfl (by omega) (by omega) h) ?_
        show pj_X _ _ (pj_wa G27 33 ((Int8.ofInt 6).toInt32).toInt.toNat z29) 126 [(4, .int y3), (3, .int y2), (0, .ref 6), (1, .int b), (2, .int c)] [] _
        obtain ⟨G30, hG30⟩ : ∃ H, H = pj_wa G27 33 ((Int8.ofInt 6).toInt32).toInt.toNat z29 := ⟨_, rfl⟩
        have iG30 : pj_Inv G30 := by rw [hG30]; exact pj_Inv_wa iG27 rfl (fun q hq => by cases hq) (fun n hn => by cases hn)
        have kG30 : pj_kpt kc_101 G0 G30 := by rw [hG30]; exact pj_kpt_a kG27 rfl
        rw [← hG30]
        refine pj_X_of (fun r h => pj_R_to (G30, 130, [(4, .int y3), (3, .int y2), (0, .ref 6), (1, .int b), (2, .int c)], [.ref 6, .int ((Int8.ofInt 99).toInt32), .int (Int32.ofInt 1)], 0, 0) 130 4 (fun _ => rfl) h) ?_
        refine pj_X_of (fun r h => pj_T_gr iG30 rfl rfl rfl h) ?_
        refine pj_X_of (fun r h => pj_R_to (G30, 134, [(4, .int y3), (3, .int y2), (0, .ref 6), (1, .int b), (2, .int c)], [.ref 6, .ref 27, .int ((Int8.ofInt 99).toInt32), .int (Int32.ofInt 1)], 0, 0) 134 2 (fun _ => rfl) h) ?_
        refine pj_X_of (fun r h => pj_T_gr iG30 rfl rfl rfl h) ?_
        refine pj_X_ca (vs := [.ref 27, .ref 33]) rfl (fun _ => rfl) ⟨Nat.le_of_ble_eq_true rfl, Nat.le_of_ble_eq_true rfl, pj_T_rcv iG30 rfl⟩ ⟨rfl, rfl⟩ (pj_Y_up (by decide) (ct_65 G30 iG30)) ?_
        rintro _ G32 ⟨y31, rfl, iG32, jG32, ry31⟩
        have kG32 : pj_kpt kc_101 G0 G32 := pj_kpt_t kG30 (pj_kpt_s jG32 rfl)
        show pj_X _ _ G32 140 [(4, .int y3), (3, .int y2), (0, .ref 6), (1, .int b), (2, .int c)] [.int y31, .int ((Int8.ofInt 99).toInt32), .int (Int32.ofInt 1)] _
        refine pj_X_of (fun r h => pj_R_mn (v := (if y31 < ((Int8.ofInt 99).toInt32) then y31 else ((Int8.ofInt 99).toInt32))) rfl rfl rfl (Nat.le_of_ble_eq_true rfl) h) ?_
        show pj_X _ _ G32 143 [(4, .int y3), (3, .int y2), (0, .ref 6), (1, .int b), (2, .int c)] [.int (if y31 < ((Int8.ofInt 99).toInt32) then y31 else ((Int8.ofInt 99).toInt32)), .int (Int32.ofInt 1)] _
        obtain ⟨z33, hz33⟩ : ∃ z : Int32, z = (if y31 < ((Int8.ofInt 99).toInt32) then y31 else ((Int8.ofInt 99).toInt32)) := ⟨_, rfl⟩
        rw [← hz33]
        have fz33_0 : z33.toInt ≤ ((Int8.ofInt 99).toInt32).toInt ∧ z33.toInt ≤ y31.toInt ∧ (z33.toInt = ((Int8.ofInt 99).toInt32).toInt ∨ z33.toInt = y31.toInt) := by rw [hz33]; exact pj_minI
        refine pj_X_of (fun r h => pj_R_mx (v := (if (Int32.ofInt 1) < z33 then z33 else (Int32.ofInt 1))) rfl rfl rfl (Nat.le_of_ble_eq_true rfl) h) ?_
        show pj_X _ _ G32 146 [(4, .int y3), (3, .int y2), (0, .ref 6), (1, .int b), (2, .int c)] [.int (if (Int32.ofInt 1) < z33 then z33 else (Int32.ofInt 1))] _
        obtain ⟨z34, hz34⟩ : ∃ z : Int32, z = (if (Int32.ofInt 1) < z33 then z33 else (Int32.ofInt 1)) := ⟨_, rfl⟩
        rw [← hz34]
        have fz34_0 : (Int32.ofInt 1).toInt ≤ z34.toInt ∧ z33.toInt ≤ z34.toInt ∧ (z34.toInt = (Int32.ofInt 1).toInt ∨ z34.toInt = z33.toInt) := by rw [hz34]; exact pj_maxI
        exact pj_X_rt rfl rfl ⟨_, rfl, iG32, kG32, ⟨by omega, by omega⟩⟩
    | false =>
      have ub13 := pj_u_neF b13
      refine pj_X_of (fun r h => pj_R_icF rfl b13 h) ?_
      refine pj_X_of (fun r h => pj_R_to (G12, 101, [(4, .int y3), (3, .int y2), (0, .ref 6), (1, .int b), (2, .int c)], [.int (Int32.ofInt 0), .int (Int32.ofInt 4), .ref 33], 0, 0) 101 3 (fun _ => rfl) h) ?_
      refine pj_X_of (fun r h => pj_T_is iG12 rfl rfl (by omega) (by omega) h) ?_
      show pj_X _ _ (pj_wa G12 33 (Int32.ofInt 4).toInt.toNat (Int32.ofInt 0)) 102 [(4, .int y3), (3, .int y2), (0, .ref 6), (1, .int b), (2, .int c)] [] _
      obtain ⟨G35, hG35⟩ : ∃ H, H = pj_wa G12 33 (Int32.ofInt 4).toInt.toNat (Int32.ofInt 0) := ⟨_, rfl⟩
      have iG35 : pj_Inv G35 := by rw [hG35]; exact pj_Inv_wa iG12 rfl (fun q hq => by cases hq) (fun n hn => by cases hn)
      have kG35 : pj_kpt kc_101 G0 G35 := by rw [hG35]; exact pj_kpt_a kG12 rfl
      rw [← hG35]
      refine pj_X_of (fun r h => pj_R_to (G35, 103, [(4, .int y3), (3, .int y2), (0, .ref 6), (1, .int b), (2, .int c)], [.ref 6], 0, 0) 103 2 (fun _ => rfl) h) ?_
      refine pj_X_of (fun r h => pj_T_gr iG35 rfl rfl rfl h) ?_
      refine pj_X_of (fun r h => pj_R_to (G35, 108, [(4, .int y3), (3, .int y2), (0, .ref 6), (1, .int b), (2, .int c)], [.int b, .int (Int32.ofInt 5), .ref 33], 0, 0) 108 3 (fun _ => rfl) h) ?_
      refine pj_X_of (fun r h => pj_T_is iG35 rfl rfl (by omega) (by omega) h) ?_
      show pj_X _ _ (pj_wa G35 33 (Int32.ofInt 5).toInt.toNat b) 109 [(4, .int y3), (3, .int y2), (0, .ref 6), (1, .int b), (2, .int c)] [] _
      obtain ⟨G36, hG36⟩ : ∃ H, H = pj_wa G35 33 (Int32.ofInt 5).toInt.toNat b := ⟨_, rfl⟩
      have iG36 : pj_Inv G36 := by rw [hG36]; exact pj_Inv_wa iG35 rfl (fun q hq => by cases hq) (fun n hn => by cases hn)
      have kG36 : pj_kpt kc_101 G0 G36 := by rw [hG36]; exact pj_kpt_a kG35 rfl
      rw [← hG36]
      refine pj_X_of (fun r h => pj_R_to (G36, 110, [(4, .int y3), (3, .int y2), (0, .ref 6), (1, .int b), (2, .int c)], [.ref 6], 0, 0) 110 2 (fun _ => rfl) h) ?_
      refine pj_X_of (fun r h => pj_T_gr iG36 rfl rfl rfl h) ?_
      refine pj_X_of (fun r h => pj_R_to (G36, 116, [(4, .int y3), (3, .int y2), (0, .ref 6), (1, .int b), (2, .int c)], [.ref 6, .int ((Int8.ofInt 6).toInt32), .ref 33], 0, 0) 116 3 (fun _ => rfl) h) ?_
      refine pj_X_of (fun r h => pj_T_gr iG36 rfl rfl rfl h) ?_
      refine pj_X_of (fun r h => pj_T_gi iG36 rfl rfl h) ?_
      show pj_X _ _ G36 122 [(4, .int y3), (3, .int y2), (0, .ref 6), (1, .int b), (2, .int c)] [.int (pj_fi G36 21 7), .int ((Int8.ofInt 6).toInt32), .ref 33] _
      obtain ⟨y37, hy37⟩ : ∃ z : Int32, z = pj_fi G36 21 7 := ⟨_, rfl⟩
      rw [← hy37]
      have ey37 : (pj_fi G36 21 7).toInt = y37.toInt := by rw [hy37]
      refine pj_X_of (fun r h => pj_R_to (G36, 124, [(4, .int y3), (3, .int y2), (0, .ref 6), (1, .int b), (2, .int c)], [.int ((Int8.ofInt 24).toInt32), .int y37, .int ((Int8.ofInt 6).toInt32), .ref 33], 0, 0) 124 2 (fun _ => rfl) h) ?_
      refine pj_X_of (fun r h => pj_R_rm rfl (pj_nz (by omega)) h) ?_
      show pj_X _ _ G36 125 [(4, .int y3), (3, .int y2), (0, .ref 6), (1, .int b), (2, .int c)] [.int (y37 - y37 / ((Int8.ofInt 24).toInt32) * ((Int8.ofInt 24).toInt32)), .int ((Int8.ofInt 6).toInt32), .ref 33] _
      obtain ⟨z38, hz38⟩ : ∃ z : Int32, z = y37 - y37 / ((Int8.ofInt 24).toInt32) * ((Int8.ofInt 24).toInt32) := ⟨_, rfl⟩
      rw [← hz38]
      refine pj_X_of (fun r h => pj_T_is iG36 rfl rfl (by omega) (by omega) h) ?_
      show pj_X _ _ (pj_wa G36 33 ((Int8.ofInt 6).toInt32).toInt.toNat z38) 126 [(4, .int y3), (3, .int y2), (0, .ref 6), (1, .int b), (2, .int c)] [] _
      obtain ⟨G39, hG39⟩ : ∃ H, H = pj_wa G36 33 ((Int8.ofInt 6).toInt32).toInt.toNat z38 := ⟨_, rfl⟩
      have iG39 : pj_Inv G39 := by rw [hG39]; exact pj_Inv_wa iG36 rfl (fun q hq => by cases hq) (fun n hn => by cases hn)
      have kG39 : pj_kpt kc_101 G0 G39 := by rw [hG39]; exact pj_kpt_a kG36 rfl
      rw [← hG39]
      refine pj_X_of (fun r h => pj_R_to (G39, 130, [(4, .int y3), (3, .int y2), (0, .ref 6), (1, .int b), (2, .int c)], [.ref 6, .int ((Int8.ofInt 99).toInt32), .int (Int32.ofInt 1)], 0, 0) 130 4 (fun _ => rfl) h) ?_
      refine pj_X_of (fun r h => pj_T_gr iG39 rfl rfl rfl h) ?_
      refine pj_X_of (fun r h => pj_R_to (G39, 134, [(4, .int y3), (3, .int y2), (0, .ref 6), (1, .int b), (2, .int c)], [.ref 6, .ref 27, .int ((Int8.ofInt 99).toInt32), .int (Int32.ofInt 1)], 0, 0) 134 2 (fun _ => rfl) h) ?_
      refine pj_X_of (fun r h => pj_T_gr iG39 rfl rfl rfl h) ?_
      refine pj_X_ca (vs := [.ref 27, .ref 33]) rfl (fun _ => rfl) ⟨Nat.le_of_ble_eq_true rfl, Nat.le_of_ble_eq_true rfl, pj_T_rcv iG39 rfl⟩ ⟨rfl, rfl⟩ (pj_Y_up (by decide) (ct_65 G39 iG39)) ?_
      rintro _ G41 ⟨y40, rfl, iG41, jG41, ry40⟩
      have kG41 : pj_kpt kc_101 G0 G41 := pj_kpt_t kG39 (pj_kpt_s jG41 rfl)
      show pj_X _ _ G41 140 [(4, .int y3), (3, .int y2), (0, .ref 6), (1, .int b), (2, .int c)] [.int y40, .int ((Int8.ofInt 99).toInt32), .int (Int32.ofInt 1)] _
      refine pj_X_of (fun r h => pj_R_mn (v := (if y40 < ((Int8.ofInt 99).toInt32) then y40 else ((Int8.ofInt 99).toInt32))) rfl rfl rfl (Nat.le_of_ble_eq_true rfl) h) ?_
      show pj_X _ _ G41 143 [(4, .int y3), (3, .int y2), (0, .ref 6), (1, .int b), (2, .int c)] [.int (if y40 < ((Int8.ofInt 99).toInt32) then y40 else ((Int8.ofInt 99).toInt32)), .int (Int32.ofInt 1)] _
      obtain ⟨z42, hz42⟩ : ∃ z : Int32, z = (if y40 < ((Int8.ofInt 99).toInt32) then y40 else ((Int8.ofInt 99).toInt32)) := ⟨_, rfl⟩
      rw [← hz42]
      have fz42_0 : z42.toInt ≤ ((Int8.ofInt 99).toInt32).toInt ∧ z42.toInt ≤ y40.toInt ∧ (z42.toInt = ((Int8.ofInt 99).toInt32).toInt ∨ z42.toInt = y40.toInt) := by rw [hz42]; exact pj_minI
      refine pj_X_of (fun r h => pj_R_mx (v := (if (Int32.ofInt 1) < z42 then z42 else (Int32.ofInt 1))) rfl rfl rfl (Nat.le_of_ble_eq_true rfl) h) ?_
      show pj_X _ _ G41 146 [(4, .int y3), (3, .int y2), (0, .ref 6), (1, .int b), (2, .int c)] [.int (if (Int32.ofInt 1) < z42 then z42 else (Int32.ofInt 1))] _
      obtain ⟨z43, hz43⟩ : ∃ z : Int32, z = (if (Int32.ofInt 1) < z42 then z42 else (Int32.ofInt 1)) := ⟨_, rfl⟩
      rw [← hz43]
      have fz43_0 : (Int32.ofInt 1).toInt ≤ z43.toInt ∧ z42.toInt ≤ z43.toInt ∧ (z43.toInt = (Int32.ofInt 1).toInt ∨ z43.toInt = z42.toInt) := by rw [hz43]; exact pj_maxI
      exact pj_X_rt rfl rfl ⟨_, rfl, iG41, kG41, ⟨by omega, by omega⟩⟩
  | false =>
    have ub7 := pj_u_geF b7
    refine pj_X_of (fun r h => pj_R_icF rfl b7 h) ?_
    refine pj_X_of (fun r h => pj_R_to (G6, 50, [(4, .int y3), (3, .int y2), (0, .ref 6), (1, .int b), (2, .int c)], [.int (Int32.ofInt 1), .int (Int32.ofInt 1), .ref 33], 0, 0) 50 3 (fun _ => rfl) h) ?_
    refine pj_X_of (fun r h => pj_T_is iG6 rfl rfl (by omega) (by omega) h) ?_
    show pj_X _ _ (pj_wa G6 33 (Int32.ofInt 1).toInt.toNat (Int32.ofInt 1)) 51 [(4, .int y3), (3, .int y2), (0, .ref 6), (1, .int b), (2, .int c)] [] _
    obtain ⟨G44, hG44⟩ : ∃ H, H = pj_wa G6 33 (Int32.ofInt 1).toInt.toNat (Int32.ofInt 1) := ⟨_, rfl⟩
    have iG44 : pj_Inv G44 := by rw [hG44]; exact pj_Inv_wa iG6 rfl (fun q hq => by cases hq) (fun n hn => by cases hn)
    have kG44 : pj_kpt kc_101 G0 G44 := by rw [hG44]; exact pj_kpt_a kG6 rfl
    rw [← hG44]
    refine pj_X_of (fun r h => pj_R_to (G44, 52, [(4, .int y3), (3, .int y2), (0, .ref 6), (1, .int b), (2, .int c)], [.ref 6], 0, 0) 52 2 (fun _ => rfl) h) ?_
    refine pj_X_of (fun r h => pj_T_gr iG44 rfl rfl rfl h) ?_
    refine pj_X_of (fun r h => pj_R_to (G44, 57, [(4, .int y3), (3, .int y2), (0, .ref 6), (1, .int b), (2, .int c)], [.ref 6, .int (Int32.ofInt 2), .ref 33], 0, 0) 57 3 (fun _ => rfl) h) ?_
    refine pj_X_of (fun r h => pj_T_gr iG44 rfl rfl rfl h) ?_
    refine pj_X_of (fun r h => pj_R_to (G44, 61, [(4, .int y3), (3, .int y2), (0, .ref 6), (1, .int b), (2, .int c)], [.int b, .ref 31, .int (Int32.ofInt 2), .ref 33], 0, 0) 61 2 (fun _ => rfl) h) ?_
    refine pj_X_of (fun r h => pj_T_il iG44 rfl rfl (by omega) (by omega) h) ?_
    show pj_X _ _ G44 62 [(4, .int y3), (3, .int y2), (0, .ref 6), (1, .int b), (2, .int c)] [.int (pj_ai G44 31 b.toInt.toNat), .int (Int32.ofInt 2), .ref 33] _
    obtain ⟨z45, hz45⟩ : ∃ z : Int32, z = pj_ai G44 31 b.toInt.toNat := ⟨_, rfl⟩
    rw [← hz45]
    have ez45 : (pj_ai G44 31 b.toInt.toNat).toInt = z45.toInt := by rw [hz45]
    refine pj_X_of (fun r h => pj_T_is iG44 rfl rfl (by omega) (by omega) h) ?_
    show pj_X _ _ (pj_wa G44 33 (Int32.ofInt 2).toInt.toNat z45) 63 [(4, .int y3), (3, .int y2), (0, .ref 6), (1, .int b), (2, .int c)] [] _
    obtain ⟨G46, hG46⟩ : ∃ H, H = pj_wa G44 33 (Int32.ofInt 2).toInt.toNat z45 := ⟨_, rfl⟩
    have iG46 : pj_Inv G46 := by rw [hG46]; exact pj_Inv_wa iG44 rfl (fun q hq => by cases hq) (fun n hn => by cases hn)
    have kG46 : pj_kpt kc_101 G0 G46 := by rw [hG46]; exact pj_kpt_a kG44 rfl
    rw [← hG46]
    refine pj_X_of (fun r h => pj_R_to (G46, 64, [(4, .int y3), (3, .int y2), (0, .ref 6), (1, .int b), (2, .int c)], [.ref 6], 0, 0) 64 2 (fun _ => rfl) h) ?_
    refine pj_X_of (fun r h => pj_T_gr iG46 rfl rfl rfl h) ?_
    refine pj_X_of (fun r h => pj_R_to (G46, 69, [(4, .int y3), (3, .int y2), (0, .ref 6), (1, .int b), (2, .int c)], [.ref 6, .int (Int32.ofInt 3), .ref 33], 0, 0) 69 3 (fun _ => rfl) h) ?_
    refine pj_X_of (fun r h => pj_T_gr iG46 rfl rfl rfl h) ?_
    refine pj_X_of (fun r h => pj_T_gr iG46 rfl rfl rfl h) ?_
    refine pj_X_of (fun r h => pj_R_to (G46, 76, [(4, .int y3), (3, .int y2), (0, .ref 6), (1, .int b), (2, .int c)], [.int b, .ref 24, .int (Int32.ofInt 3), .ref 33], 0, 0) 76 2 (fun _ => rfl) h) ?_
    refine pj_X_of (fun r h => pj_T_il iG46 rfl rfl (by omega) (by omega) h) ?_
    show pj_X _ _ G46 77 [(4, .int y3), (3, .int y2), (0, .ref 6), (1, .int b), (2, .int c)] [.int (pj_ai G46 24 b.toInt.toNat), .int (Int32.ofInt 3), .ref 33] _
    obtain ⟨z47, hz47⟩ : ∃ z : Int32, z = pj_ai G46 24 b.toInt.toNat := ⟨_, rfl⟩
    rw [← hz47]
    have ez47 : (pj_ai G46 24 b.toInt.toNat).toInt = z47.toInt := by rw [hz47]
    refine pj_X_of (fun r h => pj_T_is iG46 rfl rfl (by omega) (by omega) h) ?_
    show pj_X _ _ (pj_wa G46 33 (Int32.ofInt 3).toInt.toNat z47) 78 [(4, .int y3), (3, .int y2), (0, .ref 6), (1, .int b), (2, .int c)] [] _
    obtain ⟨G48, hG48⟩ : ∃ H, H = pj_wa G46 33 (Int32.ofInt 3).toInt.toNat z47 := ⟨_, rfl⟩
    have iG48 : pj_Inv G48 := by rw [hG48]; exact pj_Inv_wa iG46 rfl (fun q hq => by cases hq) (fun n hn => by cases hn)
    have kG48 : pj_kpt kc_101 G0 G48 := by rw [hG48]; exact pj_kpt_a kG46 rfl
    rw [← hG48]
    refine pj_X_of (fun r h => pj_R_to (G48, 79, [(4, .int y3), (3, .int y2), (0, .ref 6), (1, .int b), (2, .int c)], [.ref 6], 0, 0) 79 2 (fun _ => rfl) h) ?_
    refine pj_X_of (fun r h => pj_T_gr iG48 rfl rfl rfl h) ?_
    refine pj_X_of (fun r h => pj_R_to (G48, 85, [(4, .int y3), (3, .int y2), (0, .ref 6), (1, .int b), (2, .int c)], [.int (Int32.ofInt (-1)), .int c, .int (Int32.ofInt 4), .ref 33], 0, 0) 85 4 (fun _ => rfl) h) ?_
    cases b49 : pj_c1 .ne c (Int32.ofInt (-1)) with
    | true =>
      have ub49 := pj_u_neT b49
      refine pj_X_of (fun r h => pj_R_icT 92 rfl rfl b49 h) ?_
      refine pj_X_of (fun r h => pj_R_to (G48, 93, [(4, .int y3), (3, .int y2), (0, .ref 6), (1, .int b), (2, .int c)], [.ref 6, .int (Int32.ofInt 4), .ref 33], 0, 0) 93 2 (fun _ => rfl) h) ?_
      refine pj_X_gm iG48 rfl rfl (fun q50 => ?_) (fun q50 => ?_)
      · refine pj_X_of (fun r h => pj_T_gr iG48 rfl rfl rfl h) ?_
        refine pj_X_of (fun r h => pj_R_to (G48, 100, [(4, .int y3), (3, .int y2), (0, .ref 6), (1, .int b), (2, .int c)], [.int c, .ref 11, .int (Int32.ofInt 4), .ref 33], 0, 0) 100 2 (fun _ => rfl) h) ?_
        refine pj_X_of (fun r h => pj_T_il iG48 rfl rfl (by omega) (by omega) h) ?_
        show pj_X _ _ G48 101 [(4, .int y3), (3, .int y2), (0, .ref 6), (1, .int b), (2, .int c)] [.int (pj_ai G48 11 c.toInt.toNat), .int (Int32.ofInt 4), .ref 33] _
        obtain ⟨z51, hz51⟩ : ∃ z : Int32, z = pj_ai G48 11 c.toInt.toNat := ⟨_, rfl⟩
        rw [← hz51]
        have ez51 : (pj_ai G48 11 c.toInt.toNat).toInt = z51.toInt := by rw [hz51]
        have fz51_0 : (0 : Int) ≤ z51.toInt ∧ z51.toInt ≤ 9 ∧ (z51.toInt ≤ 0 ∨ 0 ≤ z51.toInt) := by rw [hz51]; exact iG48.2.2.1 11 (10, 0, 9, 0, 0) rfl _ (by show _ < 10; omega)
        refine pj_X_of (fun r h => pj_T_is iG48 rfl rfl (by omega) (by omega) h) ?_
        show pj_X _ _ (pj_wa G48 33 (Int32.ofInt 4).toInt.toNat z51) 102 [(4, .int y3), (3, .int y2), (0, .ref 6), (1, .int b), (2, .int c)] [] _
        obtain ⟨G52, hG52⟩ : ∃ H, H = pj_wa G48 33 (Int32.ofInt 4).toInt.toNat z51 := ⟨_, rfl⟩
        have iG52 : pj_Inv G52 := by rw [hG52]; exact pj_Inv_wa iG48 rfl (fun q hq => by cases hq) (fun n hn => by cases hn)
        have kG52 : pj_kpt kc_101 G0 G52 := by rw [hG52]; exact pj_kpt_a kG48 rfl
        rw [← hG52]
        refine pj_X_of (fun r h => pj_R_to (G52, 103, [(4, .int y3), (3, .int y2), (0, .ref 6), (1, .int b), (2, .int c)], [.ref 6], 0, 0) 103 2 (fun _ => rfl) h) ?_
        refine pj_X_of (fun r h => pj_T_gr iG52 rfl rfl rfl h) ?_
        refine pj_X_of (fun r h => pj_R_to (G52, 108, [(4, .int y3), (3, .int y2), (0, .ref 6), (1, .int b), (2, .int c)], [.int b, .int (Int32.ofInt 5), .ref 33], 0, 0) 108 3 (fun _ => rfl) h) ?_
        refine pj_X_of (fun r h => pj_T_is iG52 rfl rfl (by omega) (by omega) h) ?_
        show pj_X _ _ (pj_wa G52 33 (Int32.ofInt 5).toInt.toNat b) 109 [(4, .int y3), (3, .int y2), (0, .ref 6), (1, .int b), (2, .int c)] [] _
        obtain ⟨G53, hG53⟩ : ∃ H, H = pj_wa G52 33 (Int32.ofInt 5).toInt.toNat b := ⟨_, rfl⟩
        have iG53 : pj_Inv G53 := by rw [hG53]; exact pj_Inv_wa iG52 rfl (fun q hq => by cases hq) (fun n hn => by cases hn)
        have kG53 : pj_kpt kc_101 G0 G53 := by rw [hG53]; exact pj_kpt_a kG52 rfl
        rw [← hG53]
        refine pj_X_of (fun r h => pj_R_to (G53, 110, [(4, .int y3), (3, .int y2), (0, .ref 6), (1, .int b), (2, .int c)], [.ref 6], 0, 0) 110 2 (fun _ => rfl) h) ?_
        refine pj_X_of (fun r h => pj_T_gr iG53 rfl rfl rfl h) ?_
        refine pj_X_of (fun r h => pj_R_to (G53, 116, [(4, .int y3), (3, .int y2), (0, .ref 6), (1, .int b), (2, .int c)], [.ref 6, .int ((Int8.ofInt 6).toInt32), .ref 33], 0, 0) 116 3 (fun _ => rfl) h) ?_
        refine pj_X_of (fun r h => pj_T_gr iG53 rfl rfl rfl h) ?_
        refine pj_X_of (fun r h => pj_T_gi iG53 rfl rfl h) ?_
        show pj_X _ _ G53 122 [(4, .int y3), (3, .int y2), (0, .ref 6), (1, .int b), (2, .int c)] [.int (pj_fi G53 21 7), .int ((Int8.ofInt 6).toInt32), .ref 33] _
        obtain ⟨y54, hy54⟩ : ∃ z : Int32, z = pj_fi G53 21 7 := ⟨_, rfl⟩
        rw [← hy54]
        have ey54 : (pj_fi G53 21 7).toInt = y54.toInt := by rw [hy54]
        refine pj_X_of (fun r h => pj_R_to (G53, 124, [(4, .int y3), (3, .int y2), (0, .ref 6), (1, .int b), (2, .int c)], [.int ((Int8.ofInt 24).toInt32), .int y54, .int ((Int8.ofInt 6).toInt32), .ref 33], 0, 0) 124 2 (fun _ => rfl) h) ?_
        refine pj_X_of (fun r h => pj_R_rm rfl (pj_nz (by omega)) h) ?_
        show pj_X _ _ G53 125 [(4, .int y3), (3, .int y2), (0, .ref 6), (1, .int b), (2, .int c)] [.int (y54 - y54 / ((Int8.ofInt 24).toInt32) * ((Int8.ofInt 24).toInt32)), .int ((Int8.ofInt 6).toInt32), .ref 33] _
        obtain ⟨z55, hz55⟩ : ∃ z : Int32, z = y54 - y54 / ((Int8.ofInt 24).toInt32) * ((Int8.ofInt 24).toInt32) := ⟨_, rfl⟩
        rw [← hz55]
        refine pj_X_of (fun r h => pj_T_is iG53 rfl rfl (by omega) (by omega) h) ?_
        show pj_X _ _ (pj_wa G53 33 ((Int8.ofInt 6).toInt32).toInt.toNat z55) 126 [(4, .int y3), (3, .int y2), (0, .ref 6), (1, .int b), (2, .int c)] [] _
        obtain ⟨G56, hG56⟩ : ∃ H, H = pj_wa G53 33 ((Int8.ofInt 6).toInt32).toInt.toNat z55 := ⟨_, rfl⟩
        have iG56 : pj_Inv G56 := by rw [hG56]; exact pj_Inv_wa iG53 rfl (fun q hq => by cases hq) (fun n hn => by cases hn)
        have kG56 : pj_kpt kc_101 G0 G56 := by rw [hG56]; exact pj_kpt_a kG53 rfl
        rw [← hG56]
        refine pj_X_of (fun r h => pj_R_to (G56, 130, [(4, .int y3), (3, .int y2), (0, .ref 6), (1, .int b), (2, .int c)], [.ref 6, .int ((Int8.ofInt 99).toInt32), .int (Int32.ofInt 1)], 0, 0) 130 4 (fun _ => rfl) h) ?_
        refine pj_X_of (fun r h => pj_T_gr iG56 rfl rfl rfl h) ?_
        refine pj_X_of (fun r h => pj_R_to (G56, 134, [(4, .int y3), (3, .int y2), (0, .ref 6), (1, .int b), (2, .int c)], [.ref 6, .ref 27, .int ((Int8.ofInt 99).toInt32), .int (Int32.ofInt 1)], 0, 0) 134 2 (fun _ => rfl) h) ?_
        refine pj_X_of (fun r h => pj_T_gr iG56 rfl rfl rfl h) ?_
        refine pj_X_ca (vs := [.ref 27, .ref 33]) rfl (fun _ => rfl) ⟨Nat.le_of_ble_eq_true rfl, Nat.le_of_ble_eq_true rfl, pj_T_rcv iG56 rfl⟩ ⟨rfl, rfl⟩ (pj_Y_up (by decide) (ct_65 G56 iG56)) ?_
        rintro _ G58 ⟨y57, rfl, iG58, jG58, ry57⟩
        have kG58 : pj_kpt kc_101 G0 G58 := pj_kpt_t kG56 (pj_kpt_s jG58 rfl)
        show pj_X _ _ G58 140 [(4, .int y3), (3, .int y2), (0, .ref 6), (1, .int b), (2, .int c)] [.int y57, .int ((Int8.ofInt 99).toInt32), .int (Int32.ofInt 1)] _
        refine pj_X_of (fun r h => pj_R_mn (v := (if y57 < ((Int8.ofInt 99).toInt32) then y57 else ((Int8.ofInt 99).toInt32))) rfl rfl rfl (Nat.le_of_ble_eq_true rfl) h) ?_
        show pj_X _ _ G58 143 [(4, .int y3), (3, .int y2), (0, .ref 6), (1, .int b), (2, .int c)] [.int (if y57 < ((Int8.ofInt 99).toInt32) then y57 else ((Int8.ofInt 99).toInt32)), .int (Int32.ofInt 1)] _
        obtain ⟨z59, hz59⟩ : ∃ z : Int32, z = (if y57 < ((Int8.ofInt 99).toInt32) then y57 else ((Int8.ofInt 99).toInt32)) := ⟨_, rfl⟩
        rw [← hz59]
        have fz59_0 : z59.toInt ≤ ((Int8.ofInt 99).toInt32).toInt ∧ z59.toInt ≤ y57.toInt ∧ (z59.toInt = ((Int8.ofInt 99).toInt32).toInt ∨ z59.toInt = y57.toInt) := by rw [hz59]; exact pj_minI
        refine pj_X_of (fun r h => pj_R_mx (v := (if (Int32.ofInt 1) < z59 then z59 else (Int32.ofInt 1))) rfl rfl rfl (Nat.le_of_ble_eq_true rfl) h) ?_
        show pj_X _ _ G58 146 [(4, .int y3), (3, .int y2), (0, .ref 6), (1, .int b), (2, .int c)] [.int (if (Int32.ofInt 1) < z59 then z59 else (Int32.ofInt 1))] _
        obtain ⟨z60, hz60⟩ : ∃ z : Int32, z = (if (Int32.ofInt 1) < z59 then z59 else (Int32.ofInt 1)) := ⟨_, rfl⟩
        rw [← hz60]
        have fz60_0 : (Int32.ofInt 1).toInt ≤ z60.toInt ∧ z59.toInt ≤ z60.toInt ∧ (z60.toInt = (Int32.ofInt 1).toInt ∨ z60.toInt = z59.toInt) := by rw [hz60]; exact pj_maxI
        exact pj_X_rt rfl rfl ⟨_, rfl, iG58, kG58, ⟨by omega, by omega⟩⟩
      · refine pj_X_of (fun r h => pj_T_gr iG48 rfl rfl rfl h) ?_
        refine pj_X_of (fun r h => pj_R_to (G48, 100, [(4, .int y3), (3, .int y2), (0, .ref 6), (1, .int b), (2, .int c)], [.int c, .ref 18, .int (Int32.ofInt 4), .ref 33], 0, 0) 100 2 (fun _ => rfl) h) ?_
        refine pj_X_of (fun r h => pj_T_il iG48 rfl rfl (by omega) (by omega) h) ?_
        show pj_X _ _ G48 101 [(4, .int y3), (3, .int y2), (0, .ref 6), (1, .int b), (2, .int c)] [.int (pj_ai G48 18 c.toInt.toNat), .int (Int32.ofInt 4), .ref 33] _
        obtain ⟨z61, hz61⟩ : ∃ z : Int32, z = pj_ai G48 18 c.toInt.toNat := ⟨_, rfl⟩
        rw [← hz61]
        have ez61 : (pj_ai G48 18 c.toInt.toNat).toInt = z61.toInt := by rw [hz61]
        have fz61_0 : (0 : Int) ≤ z61.toInt ∧ z61.toInt ≤ 9 ∧ (z61.toInt ≤ 0 ∨ 0 ≤ z61.toInt) := by rw [hz61]; exact iG48.2.2.1 18 (10, 0, 9, 0, 0) rfl _ (by show _ < 10; omega)
        refine pj_X_of (fun r h => pj_T_is iG48 rfl rfl (by omega) (by omega) h) ?_
        show pj_X _ _ (pj_wa G48 33 (Int32.ofInt 4).toInt.toNat z61) 102 [(4, .int y3), (3, .int y2), (0, .ref 6), (1, .int b), (2, .int c)] [] _
        obtain ⟨G62, hG62⟩ : ∃ H, H = pj_wa G48 33 (Int32.ofInt 4).toInt.toNat z61 := ⟨_, rfl⟩
        have iG62 : pj_Inv G62 := by rw [hG62]; exact pj_Inv_wa iG48 rfl (fun q hq => by cases hq) (fun n hn => by cases hn)
        have kG62 : pj_kpt kc_101 G0 G62 := by rw [hG62]; exact pj_kpt_a kG48 rfl
        rw [← hG62]
        refine pj_X_of (fun r h => pj_R_to (G62, 103, [(4, .int y3), (3, .int y2), (0, .ref 6), (1, .int b), (2, .int c)], [.ref 6], 0, 0) 103 2 (fun _ => rfl) h) ?_
        refine pj_X_of (fun r h => pj_T_gr iG62 rfl rfl rfl h) ?_
        refine pj_X_of (fun r h => pj_R_to (G62, 108, [(4, .int y3), (3, .int y2), (0, .ref 6), (1, .int b), (2, .int c)], [.int b, .int (Int32.ofInt 5), .ref 33], 0, 0) 108 3 (fun _ => rfl) h) ?_
        refine pj_X_of (fun r h => pj_T_is iG62 rfl rfl (by omega) (by omega) h) ?_
        show pj_X _ _ (pj_wa G62 33 (Int32.ofInt 5).toInt.toNat b) 109 [(4, .int y3), (3, .int y2), (0, .ref 6), (1, .int b), (2, .int c)] [] _
        obtain ⟨G63, hG63⟩ : ∃ H, H = pj_wa G62 33 (Int32.ofInt 5).toInt.toNat b := ⟨_, rfl⟩
        have iG63 : pj_Inv G63 := by rw [hG63]; exact pj_Inv_wa iG62 rfl (fun q hq => by cases hq) (fun n hn => by cases hn)
        have kG63 : pj_kpt kc_101 G0 G63 := by rw [hG63]; exact pj_kpt_a kG62 rfl
        rw [← hG63]
        refine pj_X_of (fun r h => pj_R_to (G63, 110, [(4, .int y3), (3, .int y2), (0, .ref 6), (1, .int b), (2, .int c)], [.ref 6], 0, 0) 110 2 (fun _ => rfl) h) ?_
        refine pj_X_of (fun r h => pj_T_gr iG63 rfl rfl rfl h) ?_
        refine pj_X_of (fun r h => pj_R_to (G63, 116, [(4, .int y3), (3, .int y2), (0, .ref 6), (1, .int b), (2, .int c)], [.ref 6, .int ((Int8.ofInt 6).toInt32), .ref 33], 0, 0) 116 3 (fun _ => rfl) h) ?_
        refine pj_X_of (fun r h => pj_T_gr iG63 rfl rfl rfl h) ?_
        refine pj_X_of (fun r h => pj_T_gi iG63 rfl rfl h) ?_
        show pj_X _ _ G63 122 [(4, .int y3), (3, .int y2), (0, .ref 6), (1, .int b), (2, .int c)] [.int (pj_fi G63 21 7), .int ((Int8.ofInt 6).toInt32), .ref 33] _
        obtain ⟨y64, hy64⟩ : ∃ z : Int32, z = pj_fi G63 21 7 := ⟨_, rfl⟩
        rw [← hy64]
        have ey64 : (pj_fi G63 21 7).toInt = y64.toInt := by rw [hy64]
        refine pj_X_of (fun r h => pj_R_to (G63, 124, [(4, .int y3), (3, .int y2), (0, .ref 6), (1, .int b), (2, .int c)], [.int ((Int8.ofInt 24).toInt32), .int y64, .int ((Int8.ofInt 6).toInt32), .ref 33], 0, 0) 124 2 (fun _ => rfl) h) ?_
        refine pj_X_of (fun r h => pj_R_rm rfl (pj_nz (by omega)) h) ?_
        show pj_X _ _ G63 125 [(4, .int y3), (3, .int y2), (0, .ref 6), (1, .int b), (2, .int c)] [.int (y64 - y64 / ((Int8.ofInt 24).toInt32) * ((Int8.ofInt 24).toInt32)), .int ((Int8.ofInt 6).toInt32), .ref 33] _
        obtain ⟨z65, hz65⟩ : ∃ z : Int32, z = y64 - y64 / ((Int8.ofInt 24).toInt32) * ((Int8.ofInt 24).toInt32) := ⟨_, rfl⟩
        rw [← hz65]
        refine pj_X_of (fun r h => pj_T_is iG63 rfl rfl (by omega) (by omega) h) ?_
        show pj_X _ _ (pj_wa G63 33 ((Int8.ofInt 6).toInt32).toInt.toNat z65) 126 [(4, .int y3), (3, .int y2), (0, .ref 6), (1, .int b), (2, .int c)] [] _
        obtain ⟨G66, hG66⟩ : ∃ H, H = pj_wa G63 33 ((Int8.ofInt 6).toInt32).toInt.toNat z65 := ⟨_, rfl⟩
        have iG66 : pj_Inv G66 := by rw [hG66]; exact pj_Inv_wa iG63 rfl (fun q hq => by cases hq) (fun n hn => by cases hn)
        have kG66 : pj_kpt kc_101 G0 G66 := by rw [hG66]; exact pj_kpt_a kG63 rfl
        rw [← hG66]
        refine pj_X_of (fun r h => pj_R_to (G66, 130, [(4, .int y3), (3, .int y2), (0, .ref 6), (1, .int b), (2, .int c)], [.ref 6, .int ((Int8.ofInt 99).toInt32), .int (Int32.ofInt 1)], 0, 0) 130 4 (fun _ => rfl) h) ?_
        refine pj_X_of (fun r h => pj_T_gr iG66 rfl rfl rfl h) ?_
        refine pj_X_of (fun r h => pj_R_to (G66, 134, [(4, .int y3), (3, .int y2), (0, .ref 6), (1, .int b), (2, .int c)], [.ref 6, .ref 27, .int ((Int8.ofInt 99).toInt32), .int (Int32.ofInt 1)], 0, 0) 134 2 (fun _ => rfl) h) ?_
        refine pj_X_of (fun r h => pj_T_gr iG66 rfl rfl rfl h) ?_
        refine pj_X_ca (vs := [.ref 27, .ref 33]) rfl (fun _ => rfl) ⟨Nat.le_of_ble_eq_true rfl, Nat.le_of_ble_eq_true rfl, pj_T_rcv iG66 rfl⟩ ⟨rfl, rfl⟩ (pj_Y_up (by decide) (ct_65 G66 iG66)) ?_
        rintro _ G68 ⟨y67, rfl, iG68, jG68, ry67⟩
        have kG68 : pj_kpt kc_101 G0 G68 := pj_kpt_t kG66 (pj_kpt_s jG68 rfl)
        show pj_X _ _ G68 140 [(4, .int y3), (3, .int y2), (0, .ref 6), (1, .int b), (2, .int c)] [.int y67, .int ((Int8.ofInt 99).toInt32), .int (Int32.ofInt 1)] _
        refine pj_X_of (fun r h => pj_R_mn (v := (if y67 < ((Int8.ofInt 99).toInt32) then y67 else ((Int8.ofInt 99).toInt32))) rfl rfl rfl (Nat.le_of_ble_eq_true rfl) h) ?_
        show pj_X _ _ G68 143 [(4, .int y3), (3, .int y2), (0, .ref 6), (1, .int b), (2, .int c)] [.int (if y67 < ((Int8.ofInt 99).toInt32) then y67 else ((Int8.ofInt 99).toInt32)), .int (Int32.ofInt 1)] _
        obtain ⟨z69, hz69⟩ : ∃ z : Int32, z = (if y67 < ((Int8.ofInt 99).toInt32) then y67 else ((Int8.ofInt 99).toInt32)) := ⟨_, rfl⟩
        rw [← hz69]
        have fz69_0 : z69.toInt ≤ ((Int8.ofInt 99).toInt32).toInt ∧ z69.toInt ≤ y67.toInt ∧ (z69.toInt = ((Int8.ofInt 99).toInt32).toInt ∨ z69.toInt = y67.toInt) := by rw [hz69]; exact pj_minI
        refine pj_X_of (fun r h => pj_R_mx (v := (if (Int32.ofInt 1) < z69 then z69 else (Int32.ofInt 1))) rfl rfl rfl (Nat.le_of_ble_eq_true rfl) h) ?_
        show pj_X _ _ G68 146 [(4, .int y3), (3, .int y2), (0, .ref 6), (1, .int b), (2, .int c)] [.int (if (Int32.ofInt 1) < z69 then z69 else (Int32.ofInt 1))] _
        obtain ⟨z70, hz70⟩ : ∃ z : Int32, z = (if (Int32.ofInt 1) < z69 then z69 else (Int32.ofInt 1)) := ⟨_, rfl⟩
        rw [← hz70]
        have fz70_0 : (Int32.ofInt 1).toInt ≤ z70.toInt ∧ z69.toInt ≤ z70.toInt ∧ (z70.toInt = (Int32.ofInt 1).toInt ∨ z70.toInt = z69.toInt) := by rw [hz70]; exact pj_maxI
        exact pj_X_rt rfl rfl ⟨_, rfl, iG68, kG68, ⟨by omega, by omega⟩⟩
    | false =>
      have ub49 := pj_u_neF b49
      refine pj_X_of (fun r h => pj_R_icF rfl b49 h) ?_
      refine pj_X_of (fun r h => pj_R_to (G48, 101, [(4, .int y3), (3, .int y2), (0, .ref 6), (1, .int b), (2, .int c)], [.int (Int32.ofInt 0), .int (Int32.ofInt 4), .ref 33], 0, 0) 101 3 (fun _ => rfl) h) ?_
      refine pj_X_of (fun r h => pj_T_is iG48 rfl rfl (by omega) (by omega) h) ?_
      show pj_X _ _ (pj_wa G48 33 (Int32.ofInt 4).toInt.toNat (Int32.ofInt 0)) 102 [(4, .int y3), (3, .int y2), (0, .ref 6), (1, .int b), (2, .int c)] [] _
      obtain ⟨G71, hG71⟩ : ∃ H, H = pj_wa G48 33 (Int32.ofInt 4).toInt.toNat (Int32.ofInt 0) := ⟨_, rfl⟩
      have iG71 : pj_Inv G71 := by rw [hG71]; exact pj_Inv_wa iG48 rfl (fun q hq => by cases hq) (fun n hn => by cases hn)
      have kG71 : pj_kpt kc_101 G0 G71 := by rw [hG71]; exact pj_kpt_a kG48 rfl
      rw [← hG71]
      refine pj_X_of (fun r h => pj_R_to (G71, 103, [(4, .int y3), (3, .int y2), (0, .ref 6), (1, .int b), (2, .int c)], [.ref 6], 0, 0) 103 2 (fun _ => rfl) h) ?_
      refine pj_X_of (fun r h => pj_T_gr iG71 rfl rfl rfl h) ?_
      refine pj_X_of (fun r h => pj_R_to (G71, 108, [(4, .int y3), (3, .int y2), (0, .ref 6), (1, .int b), (2, .int c)], [.int b, .int (Int32.ofInt 5), .ref 33], 0, 0) 108 3 (fun _ => rfl) h) ?_
      refine pj_X_of (fun r h => pj_T_is iG71 rfl rfl (by omega) (by omega) h) ?_
      show pj_X _ _ (pj_wa G71 33 (Int32.ofInt 5).toInt.toNat b) 109 [(4, .int y3), (3, .int y2), (0, .ref 6), (1, .int b), (2, .int c)] [] _
      obtain ⟨G72, hG72⟩ : ∃ H, H = pj_wa G71 33 (Int32.ofInt 5).toInt.toNat b := ⟨_, rfl⟩
      have iG72 : pj_Inv G72 := by rw [hG72]; exact pj_Inv_wa iG71 rfl (fun q hq => by cases hq) (fun n hn => by cases hn)
      have kG72 : pj_kpt kc_101 G0 G72 := by rw [hG72]; exact pj_kpt_a kG71 rfl
      rw [← hG72]
      refine pj_X_of (fun r h => pj_R_to (G72, 110, [(4, .int y3), (3, .int y2), (0, .ref 6), (1, .int b), (2, .int c)], [.ref 6], 0, 0) 110 2 (fun _ => rfl) h) ?_
      refine pj_X_of (fun r h => pj_T_gr iG72 rfl rfl rfl h) ?_
      refine pj_X_of (fun r h => pj_R_to (G72, 116, [(4, .int y3), (3, .int y2), (0, .ref 6), (1, .int b), (2, .int c)], [.ref 6, .int ((Int8.ofInt 6).toInt32), .ref 33], 0, 0) 116 3 (fun _ => rfl) h) ?_
      refine pj_X_of (fun r h => pj_T_gr iG72 rfl rfl rfl h) ?_
      refine pj_X_of (fun r h => pj_T_gi iG72 rfl rfl h) ?_
      show pj_X _ _ G72 122 [(4, .int y3), (3, .int y2), (0, .ref 6), (1, .int b), (2, .int c)] [.int (pj_fi G72 21 7), .int ((Int8.ofInt 6).toInt32), .ref 33] _
      obtain ⟨y73, hy73⟩ : ∃ z : Int32, z = pj_fi G72 21 7 := ⟨_, rfl⟩
      rw [← hy73]
      have ey73 : (pj_fi G72 21 7).toInt = y73.toInt := by rw [hy73]
      refine pj_X_of (fun r h => pj_R_to (G72, 124, [(4, .int y3), (3, .int y2), (0, .ref 6), (1, .int b), (2, .int c)], [.int ((Int8.ofInt 24).toInt32), .int y73, .int ((Int8.ofInt 6).toInt32), .ref 33], 0, 0) 124 2 (fun _ => rfl) h) ?_
      refine pj_X_of (fun r h => pj_R_rm rfl (pj_nz (by omega)) h) ?_
      show pj_X _ _ G72 125 [(4, .int y3), (3, .int y2), (0, .ref 6), (1, .int b), (2, .int c)] [.int (y73 - y73 / ((Int8.ofInt 24).toInt32) * ((Int8.ofInt 24).toInt32)), .int ((Int8.ofInt 6).toInt32), .ref 33] _
      obtain ⟨z74, hz74⟩ : ∃ z : Int32, z = y73 - y73 / ((Int8.ofInt 24).toInt32) * ((Int8.ofInt 24).toInt32) := ⟨_, rfl⟩
      rw [← hz74]
      refine pj_X_of (fun r h => pj_T_is iG72 rfl rfl (by omega) (by omega) h) ?_
      show pj_X _ _ (pj_wa G72 33 ((Int8.ofInt 6).toInt32).toInt.toNat z74) 126 [(4, .int y3), (3, .int y2), (0, .ref 6), (1, .int b), (2, .int c)] [] _
      obtain ⟨G75, hG75⟩ : ∃ H, H = pj_wa G72 33 ((Int8.ofInt 6).toInt32).toInt.toNat z74 := ⟨_, rfl⟩
      have iG75 : pj_Inv G75 := by rw [hG75]; exact pj_Inv_wa iG72 rfl (fun q hq => by cases hq) (fun n hn => by cases hn)
      have kG75 : pj_kpt kc_101 G0 G75 := by rw [hG75]; exact pj_kpt_a kG72 rfl
      rw [← hG75]
      refine pj_X_of (fun r h => pj_R_to (G75, 130, [(4, .int y3), (3, .int y2), (0, .ref 6), (1, .int b), (2, .int c)], [.ref 6, .int ((Int8.ofInt 99).toInt32), .int (Int32.ofInt 1)], 0, 0) 130 4 (fun _ => rfl) h) ?_
      refine pj_X_of (fun r h => pj_T_gr iG75 rfl rfl rfl h) ?_
      refine pj_X_of (fun r h => pj_R_to (G75, 134, [(4, .int y3), (3, .int y2), (0, .ref 6), (1, .int b), (2, .int c)], [.ref 6, .ref 27, .int ((Int8.ofInt 99).toInt32), .int (Int32.ofInt 1)], 0, 0) 134 2 (fun _ => rfl) h) ?_
      refine pj_X_of (fun r h => pj_T_gr iG75 rfl rfl rfl h) ?_
      refine pj_X_ca (vs := [.ref 27, .ref 33]) rfl (fun _ => rfl) ⟨Nat.le_of_ble_eq_true rfl, Nat.le_of_ble_eq_true rfl, pj_T_rcv iG75 rfl⟩ ⟨rfl, rfl⟩ (pj_Y_up (by decide) (ct_65 G75 iG75)) ?_
      rintro _ G77 ⟨y76, rfl, iG77, jG77, ry76⟩
      have kG77 : pj_kpt kc_101 G0 G77 := pj_kpt_t kG75 (pj_kpt_s jG77 rfl)
      show pj_X _ _ G77 140 [(4, .int y3), (3, .int y2), (0, .ref 6), (1, .int b), (2, .int c)] [.int y76, .int ((Int8.ofInt 99).toInt32), .int (Int32.ofInt 1)] _
      refine pj_X_of (fun r h => pj_R_mn (v := (if y76 < ((Int8.ofInt 99).toInt32) then y76 else ((Int8.ofInt 99).toInt32))) rfl rfl rfl (Nat.le_of_ble_eq_true rfl) h) ?_
      show pj_X _ _ G77 143 [(4, .int y3), (3, .int y2), (0, .ref 6), (1, .int b), (2, .int c)] [.int (if y76 < ((Int8.ofInt 99).toInt32) then y76 else ((Int8.ofInt 99).toInt32)), .int (Int32.ofInt 1)] _
      obtain ⟨z78, hz78⟩ : ∃ z : Int32, z = (if y76 < ((Int8.ofInt 99).toInt32) then y76 else ((Int8.ofInt 99).toInt32)) := ⟨_, rfl⟩
      rw [← hz78]
      have fz78_0 : z78.toInt ≤ ((Int8.ofInt 99).toInt32).toInt ∧ z78.toInt ≤ y76.toInt ∧ (z78.toInt = ((Int8.ofInt 99).toInt32).toInt ∨ z78.toInt = y76.toInt) := by rw [hz78]; exact pj_minI
      refine pj_X_of (fun r h => pj_R_mx (v := (if (Int32.ofInt 1) < z78 then z78 else (Int32.ofInt 1))) rfl rfl rfl (Nat.le_of_ble_eq_true rfl) h) ?_
      show pj_X _ _ G77 146 [(4, .int y3), (3, .int y2), (0, .ref 6), (1, .int b), (2, .int c)] [.int (if (Int32.ofInt 1) < z78 then z78 else (Int32.ofInt 1))] _
      obtain ⟨z79, hz79⟩ : ∃ z : Int32, z = (if (Int32.ofInt 1) < z78 then z78 else (Int32.ofInt 1)) := ⟨_, rfl⟩
      rw [← hz79]
      have fz79_0 : (Int32.ofInt 1).toInt ≤ z79.toInt ∧ z78.toInt ≤ z79.toInt ∧ (z79.toInt = (Int32.ofInt 1).toInt ∨ z79.toInt = z78.toInt) := by rw [hz79]; exact pj_maxI
      exact pj_X_rt rfl rfl ⟨_, rfl, iG77, kG77, ⟨by omega, by omega⟩⟩
def kc_99 : pj_KT := ([], [30, 33], [30, 33])
theorem ct_99 (G0 : pj_G) (hI : pj_Inv G0) (b : Int32) (c : Int32) : pj_Y 4 99 [.ref 6, .int b, .int c] G0 (fun v G' => ∃ y : Int32, v = some (.int y) ∧ pj_Inv G' ∧ pj_kpt kc_99 G0 G' ∧ ((-4 : Int) ≤ y.toInt ∧ y.toInt ≤ 99) ∧ (0 < y.toInt → 0 ≤ b.toInt ∧ b.toInt ≤ 5 ∧ -1 ≤ c.toInt ∧ c.toInt ≤ 9)) := by
  have c0_ : ((Int8.ofInt (-2)).toInt32).toInt = -2 := by decide
  have c1_ : ((Int8.ofInt (-3)).toInt32).toInt = -3 := by decide
  have c2_ : ((Int8.ofInt (-4)).toInt32).toInt = -4 := by decide
  have c3_ : (Int32.ofInt (-1)).toInt = -1 := by decide
  refine pj_Y_X (M := pj_m99) rfl rfl (Nat.le_of_ble_eq_true rfl) ?_
  have hK : pj_kpt kc_99 G0 G0 := pj_kpt_r _ _
  show pj_X _ _ G0 0 [(0, .ref 6), (1, .int b), (2, .int c)] [] _
  refine pj_X_of (fun r h => pj_R_to (G0, 2, [(0, .ref 6), (1, .int b), (2, .int c)], [.int b, .ref 6], 0, 0) 2 3 (fun _ => rfl) h) ?_
  refine pj_X_ca (vs := [.ref 6, .int b]) rfl (fun _ => rfl) ⟨Nat.le_of_ble_eq_true rfl, Nat.le_of_ble_eq_true rfl, pj_T_rcv hI rfl⟩ ⟨rfl, rfl⟩ (pj_Y_up (by decide) (ct_95 G0 hI b)) ?_
  rintro _ _ ⟨y1, rfl, rfl, ry1, ey1⟩
  show pj_X _ _ G0 5 [(0, .ref 6), (1, .int b), (2, .int c)] [.int y1] _
  cases b2 : pj_c1 .eq y1 0 with
  | true =>
    have ub2 := pj_u0_eqT b2
    refine pj_X_of (fun r h => pj_R_ifT 21 rfl rfl b2 h) ?_
    refine pj_X_of (fun r h => pj_R_to (G0, 22, [(0, .ref 6), (1, .int b), (2, .int c)], [.int (Int32.ofInt (-1))], 0, 0) 22 2 (fun _ => rfl) h) ?_
    exact pj_X_rt rfl rfl ⟨_, rfl, hI, hK, ⟨by omega, by omega⟩, by omega⟩
  | false =>
    have ub2 := pj_u0_eqF b2
    refine pj_X_of (fun r h => pj_R_ifF rfl b2 h) ?_
    refine pj_X_of (fun r h => pj_R_to (G0, 10, [(0, .ref 6), (1, .int b), (2, .int c)], [.int (Int32.ofInt (-1)), .int c], 0, 0) 10 3 (fun _ => rfl) h) ?_
    cases b3 : pj_c1 .eq c (Int32.ofInt (-1)) with
    | true =>
      have ub3 := pj_u_eqT b3
      refine pj_X_of (fun r h => pj_R_icT 23 rfl rfl b3 h) ?_
      refine pj_X_of (fun r h => pj_R_to (G0, 24, [(0, .ref 6), (1, .int b), (2, .int c)], [.ref 6], 0, 0) 24 2 (fun _ => rfl) h) ?_
      refine pj_X_of (fun r h => pj_T_gr hI rfl rfl rfl h) ?_
      refine pj_X_of (fun r h => pj_T_gr hI rfl rfl rfl h) ?_
      refine pj_X_of (fun r h => pj_R_to (G0, 31, [(0, .ref 6), (1, .int b), (2, .int c)], [.int b, .ref 23], 0, 0) 31 2 (fun _ => rfl) h) ?_
      refine pj_X_of (fun r h => pj_T_il hI rfl rfl (by omega) (by omega) h) ?_
      show pj_X _ _ G0 32 [(0, .ref 6), (1, .int b), (2, .int c)] [.int (pj_ai G0 23 b.toInt.toNat)] _
      obtain ⟨z4, hz4⟩ : ∃ z : Int32, z = pj_ai G0 23 b.toInt.toNat := ⟨_, rfl⟩
      rw [← hz4]
      have ez4 : (pj_ai G0 23 b.toInt.toNat).toInt = z4.toInt := by rw [hz4]
      cases b5 : pj_c1 .gt z4 0 with
      | true =>
        have ub5 := pj_u0_gtT b5
        refine pj_X_of (fun r h => pj_R_ifT 48 rfl rfl b5 h) ?_
        refine pj_X_of (fun r h => pj_R_to (G0, 50, [(0, .ref 6), (1, .int b), (2, .int c)], [.int ((Int8.ofInt (-2)).toInt32)], 0, 0) 50 2 (fun _ => rfl) h) ?_
        exact pj_X_rt rfl rfl ⟨_, rfl, hI, hK, ⟨by omega, by omega⟩, by omega⟩
      | false =>
        have ub5 := pj_u0_gtF b5
        refine pj_X_of (fun r h => pj_R_ifF rfl b5 h) ?_
        refine pj_X_of (fun r h => pj_R_to (G0, 36, [(0, .ref 6), (1, .int b), (2, .int c)], [.ref 6], 0, 0) 36 2 (fun _ => rfl) h) ?_
        refine pj_X_of (fun r h => pj_T_gr hI rfl rfl rfl h) ?_
        refine pj_X_of (fun r h => pj_T_gr hI rfl rfl rfl h) ?_
        refine pj_X_of (fun r h => pj_R_to (G0, 43, [(0, .ref 6), (1, .int b), (2, .int c)], [.int b, .ref 22], 0, 0) 43 2 (fun _ => rfl) h) ?_
        refine pj_X_of (fun r h => pj_T_il hI rfl rfl (by omega) (by omega) h) ?_
        show pj_X _ _ G0 44 [(0, .ref 6), (1, .int b), (2, .int c)] [.int (pj_ai G0 22 b.toInt.toNat)] _
        obtain ⟨z6, hz6⟩ : ∃ z : Int32, z = pj_ai G0 22 b.toInt.toNat := ⟨_, rfl⟩
        rw [← hz6]
        have ez6 : (pj_ai G0 22 b.toInt.toNat).toInt = z6.toInt := by rw [hz6]
        have fz6_0 : (-1 : Int) ≤ z6.toInt ∧ z6.toInt ≤ 9 ∧ (z6.toInt ≤ -1 ∨ -1 ≤ z6.toInt) := by rw [hz6]; exact hI.2.2.1 22 (6, -1, 9, -1, -1) rfl _ (by show _ < 6; omega)
        refine pj_X_of (fun r h => pj_R_to (G0, 45, [(0, .ref 6), (1, .int b), (2, .int c)], [.int c, .int z6], 0, 0) 45 2 (fun _ => rfl) h) ?_
        cases b7 : pj_c1 .ne z6 c with
        | true =>
          have ub7 := pj_u_neT b7
          refine pj_X_of (fun r h => pj_R_icT 51 rfl rfl b7 h) ?_
          refine pj_X_of (fun r h => pj_R_to (G0, 53, [(0, .ref 6), (1, .int b), (2, .int c)], [.int (Int32.ofInt (-1)), .int c], 0, 0) 53 3 (fun _ => rfl) h) ?_
          refine pj_X_of (fun r h => pj_R_icT 77 rfl rfl (pj_b_eqT (by omega)) h) ?_
          refine pj_X_of (fun r h => pj_R_to (G0, 79, [(0, .ref 6), (1, .int b), (2, .int c)], [.int (Int32.ofInt (-1)), .int c], 0, 0) 79 3 (fun _ => rfl) h) ?_
          refine pj_X_of (fun r h => pj_R_icT 96 rfl rfl (pj_b_eqT (by omega)) h) ?_
          refine pj_X_of (fun r h => pj_R_to (G0, 99, [(0, .ref 6), (1, .int b), (2, .int c)], [.int c, .int b, .ref 6], 0, 0) 99 4 (fun _ => rfl) h) ?_
          refine pj_X_ca (vs := [.ref 6, .int b, .int c]) rfl (fun _ => rfl) ⟨Nat.le_of_ble_eq_true rfl, Nat.le_of_ble_eq_true rfl, pj_T_rcv hI rfl⟩ ⟨rfl, rfl⟩ (pj_Y_up (by decide) (ct_101 G0 hI b c ⟨by omega, by omega⟩ ⟨by omega, by omega⟩)) ?_
          rintro _ G9 ⟨y8, rfl, iG9, jG9, ry8⟩
          have kG9 : pj_kpt kc_99 G0 G9 := pj_kpt_t hK (pj_kpt_s jG9 rfl)
          show pj_X _ _ G9 102 [(0, .ref 6), (1, .int b), (2, .int c)] [.int y8] _
          exact pj_X_rt rfl rfl ⟨_, rfl, iG9, kG9, ⟨by omega, by omega⟩, by omega⟩
        | false =>
          have ub7 := pj_u_neF b7
          refine pj_X_of (fun r h => pj_R_icF rfl b7 h) ?_
          refine pj_X_of (fun r h => pj_R_to (G0, 50, [(0, .ref 6), (1, .int b), (2, .int c)], [.int ((Int8.ofInt (-2)).toInt32)], 0, 0) 50 2 (fun _ => rfl) h) ?_
          exact pj_X_rt rfl rfl ⟨_, rfl, hI, hK, ⟨by omega, by omega⟩, by omega⟩
    | false =>
      have ub3 := pj_u_eqF b3
      refine pj_X_of (fun r h => pj_R_icF rfl b3 h) ?_
      refine pj_X_of (fun r h => pj_R_to (G0, 15, [(0, .ref 6), (1, .int b), (2, .int c)], [.int c, .ref 6], 0, 0) 15 3 (fun _ => rfl) h) ?_
      refine pj_X_ca (vs := [.ref 6, .int c]) rfl (fun _ => rfl) ⟨Nat.le_of_ble_eq_true rfl, Nat.le_of_ble_eq_true rfl, pj_T_rcv hI rfl⟩ ⟨rfl, rfl⟩ (pj_Y_up (by decide) (ct_94 G0 hI c)) ?_
      rintro _ _ ⟨y10, rfl, rfl, ry10, ey10⟩
      show pj_X _ _ G0 18 [(0, .ref 6), (1, .int b), (2, .int c)] [.int y10] _
      cases b11 : pj_c1 .ne y10 0 with
      | true =>
        have ub11 := pj_u0_neT b11
        refine pj_X_of (fun r h => pj_R_ifT 23 rfl rfl b11 h) ?_
        refine pj_X_of (fun r h => pj_R_to (G0, 24, [(0, .ref 6), (1, .int b), (2, .int c)], [.ref 6], 0, 0) 24 2 (fun _ => rfl) h) ?_
        refine pj_X_of (fun r h => pj_T_gr hI rfl rfl rfl h) ?_
        refine pj_X_of (fun r h => pj_T_gr hI rfl rfl rfl h) ?_
        refine pj_X_of (fun r h => pj_R_to (G0, 31, [(0, .ref 6), (1, .int b), (2, .int c)], [.int b, .ref 23], 0, 0) 31 2 (fun _ => rfl) h) ?_
        refine pj_X_of (fun r h => pj_T_il hI rfl rfl (by omega) (by omega) h) ?_
        show pj_X _ _ G0 32 [(0, .ref 6), (1, .int b), (2, .int c)] [.int (pj_ai G0 23 b.toInt.toNat)] _
        obtain ⟨z12, hz12⟩ : ∃ z : Int32, z = pj_ai G0 23 b.toInt.toNat := ⟨_, rfl⟩
        rw [← hz12]
        have ez12 : (pj_ai G0 23 b.toInt.toNat).toInt = z12.toInt := by rw [hz12]
        cases b13 : pj_c1 .gt z12 0 with
        | true =>
          have ub13 := pj_u0_gtT b13
          refine pj_X_of (fun r h => pj_R_ifT 48 rfl rfl b13 h) ?_
          refine pj_X_of (fun r h => pj_R_to (G0, 50, [(0, .ref 6), (1, .int b), (2, .int c)], [.int ((Int8.ofInt (-2)).toInt32)], 0, 0) 50 2 (fun _ => rfl) h) ?_
          exact pj_X_rt rfl rfl ⟨_, rfl, hI, hK, ⟨by omega, by omega⟩, by omega⟩
        | false =>
          have ub13 := pj_u0_gtF b13
          refine pj_X_of (fun r h => pj_R_ifF rfl b13 h) ?_
          refine pj_X_of (fun r h => pj_R_to (G0, 36, [(0, .ref 6), (1, .int b), (2, .int c)], [.ref 6], 0, 0) 36 2 (fun _ => rfl) h) ?_
          refine pj_X_of (fun r h => pj_T_gr hI rfl rfl rfl h) ?_
          refine pj_X_of (fun r h => pj_T_gr hI rfl rfl rfl h) ?_
          refine pj_X_of (fun r h => pj_R_to (G0, 43, [(0, .ref 6), (1, .int b), (2, .int c)], [.int b, .ref 22], 0, 0) 43 2 (fun _ => rfl) h) ?_
          refine pj_X_of (fun r h => pj_T_il hI rfl rfl (by omega) (by omega) h) ?_
          show pj_X _ _ G0 44 [(0, .ref 6), (1, .int b), (2, .int c)] [.int (pj_ai G0 22 b.toInt.toNat)] _
          obtain ⟨z14, hz14⟩ : ∃ z : Int32, z = pj_ai G0 22 b.toInt.toNat := ⟨_, rfl⟩
          rw [← hz14]
          have ez14 : (pj_ai G0 22 b.toInt.toNat).toInt = z14.toInt := by rw [hz14]
          have fz14_0 : (-1 : Int) ≤ z14.toInt ∧ z14.toInt ≤ 9 ∧ (z14.toInt ≤ -1 ∨ -1 ≤ z14.toInt) := by rw [hz14]; exact hI.2.2.1 22 (6, -1, 9, -1, -1) rfl _ (by show _ < 6; omega)
          refine pj_X_of (fun r h => pj_R_to (G0, 45, [(0, .ref 6), (1, .int b), (2, .int c)], [.int c, .int z14], 0, 0) 45 2 (fun _ => rfl) h) ?_
          cases b15 : pj_c1 .ne z14 c with
          | true =>
            have ub15 := pj_u_neT b15
            refine pj_X_of (fun r h => pj_R_icT 51 rfl rfl b15 h) ?_
            refine pj_X_of (fun r h => pj_R_to (G0, 53, [(0, .ref 6), (1, .int b), (2, .int c)], [.int (Int32.ofInt (-1)), .int c], 0, 0) 53 3 (fun _ => rfl) h) ?_
            cases b16 : pj_c1 .eq c (Int32.ofInt (-1)) with
            | true =>
              have ub16 := pj_u_eqT b16
              refine pj_X_of (fun r h => pj_R_icT 77 rfl rfl b16 h) ?_
              refine pj_X_of (fun r h => pj_R_to (G0, 79, [(0, .ref 6), (1, .int b), (2, .int c)], [.int (Int32.ofInt (-1)), .int c], 0, 0) 79 3 (fun _ => rfl) h) ?_
              refine pj_X_of (fun r h => pj_R_icT 96 rfl rfl (pj_b_eqT (by omega)) h) ?_
              refine pj_X_of (fun r h => pj_R_to (G0, 99, [(0, .ref 6), (1, .int b), (2, .int c)], [.int c, .int b, .ref 6], 0, 0) 99 4 (fun _ => rfl) h) ?_
              refine pj_X_ca (vs := [.ref 6, .int b, .int c]) rfl (fun _ => rfl) ⟨Nat.le_of_ble_eq_true rfl, Nat.le_of_ble_eq_true rfl, pj_T_rcv hI rfl⟩ ⟨rfl, rfl⟩ (pj_Y_up (by decide) (ct_101 G0 hI b c ⟨by omega, by omega⟩ ⟨by omega, by omega⟩)) ?_
              rintro _ G18 ⟨y17, rfl, iG18, jG18, ry17⟩
              have kG18 : pj_kpt kc_99 G0 G18 := pj_kpt_t hK (pj_kpt_s jG18 rfl)
              show pj_X _ _ G18 102 [(0, .ref 6), (1, .int b), (2, .int c)] [.int y17] _
              exact pj_X_rt rfl rfl ⟨_, rfl, iG18, kG18, ⟨by omega, by omega⟩, by omega⟩
            | false =>
              have ub16 := pj_u_eqF b16
              refine pj_X_of (fun r h => pj_R_icF rfl b16 h) ?_
              refine pj_X_of (fun r h => pj_R_to (G0, 57, [(0, .ref 6), (1, .int b), (2, .int c)], [.ref 6], 0, 0) 57 2 (fun _ => rfl) h) ?_
              refine pj_X_of (fun r h => pj_T_gr hI rfl rfl rfl h) ?_
              refine pj_X_of (fun r h => pj_R_to (G0, 61, [(0, .ref 6), (1, .int b), (2, .int c)], [.int b, .ref 31], 0, 0) 61 2 (fun _ => rfl) h) ?_
              refine pj_X_of (fun r h => pj_T_il hI rfl rfl (by omega) (by omega) h) ?_
              show pj_X _ _ G0 62 [(0, .ref 6), (1, .int b), (2, .int c)] [.int (pj_ai G0 31 b.toInt.toNat)] _
              obtain ⟨z19, hz19⟩ : ∃ z : Int32, z = pj_ai G0 31 b.toInt.toNat := ⟨_, rfl⟩
              rw [← hz19]
              have ez19 : (pj_ai G0 31 b.toInt.toNat).toInt = z19.toInt := by rw [hz19]
              refine pj_X_of (fun r h => pj_R_to (G0, 63, [(0, .ref 6), (1, .int b), (2, .int c)], [.ref 6, .int z19], 0, 0) 63 2 (fun _ => rfl) h) ?_
              refine pj_X_gm hI rfl rfl (fun q20 => ?_) (fun q20 => ?_)
              · refine pj_X_of (fun r h => pj_T_gr hI rfl rfl rfl h) ?_
                refine pj_X_of (fun r h => pj_R_to (G0, 70, [(0, .ref 6), (1, .int b), (2, .int c)], [.int c, .ref 11, .int z19], 0, 0) 70 2 (fun _ => rfl) h) ?_
                refine pj_X_of (fun r h => pj_T_il hI rfl rfl (by omega) (by omega) h) ?_
                show pj_X _ _ G0 71 [(0, .ref 6), (1, .int b), (2, .int c)] [.int (pj_ai G0 11 c.toInt.toNat), .int z19] _
                obtain ⟨z21, hz21⟩ : ∃ z : Int32, z = pj_ai G0 11 c.toInt.toNat := ⟨_, rfl⟩
                rw [← hz21]
                have ez21 : (pj_ai G0 11 c.toInt.toNat).toInt = z21.toInt := by rw [hz21]
                have fz21_0 : (0 : Int) ≤ z21.toInt ∧ z21.toInt ≤ 9 ∧ (z21.toInt ≤ 0 ∨ 0 ≤ z21.toInt) := by rw [hz21]; exact hI.2.2.1 11 (10, 0, 9, 0, 0) rfl _ (by show _ < 10; omega)
                cases b22 : pj_c1 .ge z19 z21 with
                | true =>
                  have ub22 := pj_u_geT b22
                  refine pj_X_of (fun r h => pj_R_icT 77 rfl rfl b22 h) ?_
                  refine pj_X_of (fun r h => pj_R_to (G0, 79, [(0, .ref 6), (1, .int b), (2, .int c)], [.int (Int32.ofInt (-1)), .int c], 0, 0) 79 3 (fun _ => rfl) h) ?_
                  cases b23 : pj_c1 .eq c (Int32.ofInt (-1)) with
                  | true =>
                    have ub23 := pj_u_eqT b23
                    refine pj_X_of (fun r h => pj_R_icT 96 rfl rfl b23 h) ?_
                    refine pj_X_of (fun r h => pj_R_to (G0, 99, [(0, .ref 6), (1, .int b), (2, .int c)], [.int c, .int b, .ref 6], 0, 0) 99 4 (fun _ => rfl) h) ?_
                    refine pj_X_ca (vs := [.ref 6, .int b, .int c]) rfl (fun _ => rfl) ⟨Nat.le_of_ble_eq_true rfl, Nat.le_of_ble_eq_true rfl, pj_T_rcv hI rfl⟩ ⟨rfl, rfl⟩ (pj_Y_up (by decide) (ct_101 G0 hI b c ⟨by omega, by omega⟩ ⟨by omega, by omega⟩)) ?_
                    rintro _ G25 ⟨y24, rfl, iG25, jG25, ry24⟩
                    have kG25 : pj_kpt kc_99 G0 G25 := pj_kpt_t hK (pj_kpt_s jG25 rfl)
                    show pj_X _ _ G25 102 [(0, .ref 6), (1, .int b), (2, .int c)] [.int y24] _
                    exact pj_X_rt rfl rfl ⟨_, rfl, iG25, kG25, ⟨by omega, by omega⟩, by omega⟩
                  | false =>
                    have ub23 := pj_u_eqF b23
                    refine pj_X_of (fun r h => pj_R_icF rfl b23 h) ?_
                    refine pj_X_of (fun r h => pj_R_to (G0, 83, [(0, .ref 6), (1, .int b), (2, .int c)], [.ref 6], 0, 0) 83 2 (fun _ => rfl) h) ?_
                    refine pj_X_of (fun r h => pj_T_gr hI rfl rfl rfl h) ?_
                    refine pj_X_of (fun r h => pj_R_to (G0, 87, [(0, .ref 6), (1, .int b), (2, .int c)], [.int c, .ref 21], 0, 0) 87 2 (fun _ => rfl) h) ?_
                    refine pj_X_ca (vs := [.ref 21, .int c]) rfl (fun _ => rfl) ⟨Nat.le_of_ble_eq_true rfl, Nat.le_of_ble_eq_true rfl, pj_T_rcv hI rfl⟩ ⟨rfl, rfl⟩ (pj_Y_up (by decide) (ct_72_21 G0 hI c)) ?_
                    rintro _ _ ⟨y26, rfl, rfl, ry26⟩
                    show pj_X _ _ G0 90 [(0, .ref 6), (1, .int b), (2, .int c)] [.int y26] _
                    cases b27 : pj_c1 .ne y26 0 with
                    | true =>
                      have ub27 := pj_u0_neT b27
                      refine pj_X_of (fun r h => pj_R_ifT 96 rfl rfl b27 h) ?_
                      refine pj_X_of (fun r h => pj_R_to (G0, 99, [(0, .ref 6), (1, .int b), (2, .int c)], [.int c, .int b, .ref 6], 0, 0) 99 4 (fun _ => rfl) h) ?_
                      refine pj_X_ca (vs := [.ref 6, .int b, .int c]) rfl (fun _ => rfl) ⟨Nat.le_of_ble_eq_true rfl, Nat.le_of_ble_eq_true rfl, pj_T_rcv hI rfl⟩ ⟨rfl, rfl⟩ (pj_Y_up (by decide) (ct_101 G0 hI b c ⟨by omega, by omega⟩ ⟨by omega, by omega⟩)) ?_
                      rintro _ G29 ⟨y28, rfl, iG29, jG29, ry28⟩
                      have kG29 : pj_kpt kc_99 G0 G29 := pj_kpt_t hK (pj_kpt_s jG29 rfl)
                      show pj_X _ _ G29 102 [(0, .ref 6), (1, .int b), (2, .int c)] [.int y28] _
                      exact pj_X_rt rfl rfl ⟨_, rfl, iG29, kG29, ⟨by omega, by omega⟩, by omega⟩
                    | false =>
                      have ub27 := pj_u0_neF b27
                      refine pj_X_of (fun r h => pj_R_ifF rfl b27 h) ?_
                      refine pj_X_of (fun r h => pj_R_to (G0, 95, [(0, .ref 6), (1, .int b), (2, .int c)], [.int ((Int8.ofInt (-4)).toInt32)], 0, 0) 95 2 (fun _ => rfl) h) ?_
                      exact pj_X_rt rfl rfl ⟨_, rfl, hI, hK, ⟨by omega, by omega⟩, by omega⟩
                | false =>
                  have ub22 := pj_u_geF b22
                  refine pj_X_of (fun r h => pj_R_icF rfl b22 h) ?_
                  refine pj_X_of (fun r h => pj_R_to (G0, 76, [(0, .ref 6), (1, .int b), (2, .int c)], [.int ((Int8.ofInt (-3)).toInt32)], 0, 0) 76 2 (fun _ => rfl) h) ?_
                  exact pj_X_rt rfl rfl ⟨_, rfl, hI, hK, ⟨by omega, by omega⟩, by omega⟩
              · refine pj_X_of (fun r h => pj_T_gr hI rfl rfl rfl h) ?_
                refine pj_X_of (fun r h => pj_R_to (G0, 70, [(0, .ref 6), (1, .int b), (2, .int c)], [.int c, .ref 18, .int z19], 0, 0) 70 2 (fun _ => rfl) h) ?_
                refine pj_X_of (fun r h => pj_T_il hI rfl rfl (by omega) (by omega) h) ?_
                show pj_X _ _ G0 71 [(0, .ref 6), (1, .int b), (2, .int c)] [.int (pj_ai G0 18 c.toInt.toNat), .int z19] _
                obtain ⟨z30, hz30⟩ : ∃ z : Int32, z = pj_ai G0 18 c.toInt.toNat := ⟨_, rfl⟩
                rw [← hz30]
                have ez30 : (pj_ai G0 18 c.toInt.toNat).toInt = z30.toInt := by rw [hz30]
                have fz30_0 : (0 : Int) ≤ z30.toInt ∧ z30.toInt ≤ 9 ∧ (z30.toInt ≤ 0 ∨ 0 ≤ z30.toInt) := by rw [hz30]; exact hI.2.2.1 18 (10, 0, 9, 0, 0) rfl _ (by show _ < 10; omega)
                cases b31 : pj_c1 .ge z19 z30 with
                | true =>
                  have ub31 := pj_u_geT b31
                  refine pj_X_of (fun r h => pj_R_icT 77 rfl rfl b31 h) ?_
                  refine pj_X_of (fun r h => pj_R_to (G0, 79, [(0, .ref 6), (1, .int b), (2, .int c)], [.int (Int32.ofInt (-1)), .int c], 0, 0) 79 3 (fun _ => rfl) h) ?_
                  cases b32 : pj_c1 .eq c (Int32.ofInt (-1)) with
                  | true =>
                    have ub32 := pj_u_eqT b32
                    refine pj_X_of (fun r h => pj_R_icT 96 rfl rfl b32 h) ?_
                    refine pj_X_of (fun r h => pj_R_to (G0, 99, [(0, .ref 6), (1, .int b), (2, .int c)], [.int c, .int b, .ref 6], 0, 0) 99 4 (fun _ => rfl) h) ?_
                    refine pj_X_ca (vs := [.ref 6, .int b, .int c]) rfl (fun _ => rfl) ⟨Nat.le_of_ble_eq_true rfl, Nat.le_of_ble_eq_true rfl, pj_T_rcv hI rfl⟩ ⟨rfl, rfl⟩ (pj_Y_up (by decide) (ct_101 G0 hI b c ⟨by omega, by omega⟩ ⟨by omega, by omega⟩)) ?_
                    rintro _ G34 ⟨y33, rfl, iG34, jG34, ry33⟩
                    have kG34 : pj_kpt kc_99 G0 G34 := pj_kpt_t hK (pj_kpt_s jG34 rfl)
                    show pj_X _ _ G34 102 [(0, .ref 6), (1, .int b), (2, .int c)] [.int y33] _
                    exact pj_X_rt rfl rfl ⟨_, rfl, iG34, kG34, ⟨by omega, by omega⟩, by omega⟩
                  | false =>
                    have ub32 := pj_u_eqF b32
                    refine pj_X_of (fun r h => pj_R_icF rfl b32 h) ?_
                    refine pj_X_of (fun r h => pj_R_to (G0, 83, [(0, .ref 6), (1, .int b), (2, .int c)], [.ref 6], 0, 0) 83 2 (fun _ => rfl) h) ?_
                    refine pj_X_of (fun r h => pj_T_gr hI rfl rfl rfl h) ?_
                    refine pj_X_of (fun r h => pj_R_to (G0, 87, [(0, .ref 6), (1, .int b), (2, .int c)], [.int c, .ref 21], 0, 0) 87 2 (fun _ => rfl) h) ?_
                    refine pj_X_ca (vs := [.ref 21, .int c]) rfl (fun _ => rfl) ⟨Nat.le_of_ble_eq_true rfl, Nat.le_of_ble_eq_true rfl, pj_T_rcv hI rfl⟩ ⟨rfl, rfl⟩ (pj_Y_up (by decide) (ct_72_21 G0 hI c)) ?_
                    rintro _ _ ⟨y35, rfl, rfl, ry35⟩
                    show pj_X _ _ G0 90 [(0, .ref 6), (1, .int b), (2, .int c)] [.int y35] _
                    cases b36 : pj_c1 .ne y35 0 with
                    | true =>
                      have ub36 := pj_u0_neT b36
                      refine pj_X_of (fun r h => pj_R_ifT 96 rfl rfl b36 h) ?_
                      refine pj_X_of (fun r h => pj_R_to (G0, 99, [(0, .ref 6), (1, .int b), (2, .int c)], [.int c, .int b, .ref 6], 0, 0) 99 4 (fun _ => rfl) h) ?_
                      refine pj_X_ca (vs := [.ref 6, .int b, .int c]) rfl (fun _ => rfl) ⟨Nat.le_of_ble_eq_true rfl, Nat.le_of_ble_eq_true rfl, pj_T_rcv hI rfl⟩ ⟨rfl, rfl⟩ (pj_Y_up (by decide) (ct_101 G0 hI b c ⟨by omega, by omega⟩ ⟨by omega, by omega⟩)) ?_
                      rintro _ G38 ⟨y37, rfl, iG38, jG38, ry37⟩
                      have kG38 : pj_kpt kc_99 G0 G38 := pj_kpt_t hK (pj_kpt_s jG38 rfl)
                      show pj_X _ _ G38 102 [(0, .ref 6), (1, .int b), (2, .int c)] [.int y37] _
                      exact pj_X_rt rfl rfl ⟨_, rfl, iG38, kG38, ⟨by omega, by omega⟩, by omega⟩
                    | false =>
                      have ub36 := pj_u0_neF b36
                      refine pj_X_of (fun r h => pj_R_ifF rfl b36 h) ?_
                      refine pj_X_of (fun r h => pj_R_to (G0, 95, [(0, .ref 6), (1, .int b), (2, .int c)], [.int ((Int8.ofInt (-4)).toInt32)], 0, 0) 95 2 (fun _ => rfl) h) ?_
                      exact pj_X_rt rfl rfl ⟨_, rfl, hI, hK, ⟨by omega, by omega⟩, by omega⟩
                | false =>
                  have ub31 := pj_u_geF b31
                  refine pj_X_of (fun r h => pj_R_icF rfl b31 h) ?_
                  refine pj_X_of (fun r h => pj_R_to (G0, 76, [(0, .ref 6), (1, .int b), (2, .int c)], [.int ((Int8.ofInt (-3)).toInt32)], 0, 0) 76 2 (fun _ => rfl) h) ?_
                  exact pj_X_rt rfl rfl ⟨_, rfl, hI, hK, ⟨by omega, by omega⟩, by omega⟩
          | false =>
            have ub15 := pj_u_neF b15
            refine pj_X_of (fun r h => pj_R_icF rfl b15 h) ?_
            refine pj_X_of (fun r h => pj_R_to (G0, 50, [(0, .ref 6), (1, .int b), (2, .int c)], [.int ((Int8.ofInt (-2)).toInt32)], 0, 0) 50 2 (fun _ => rfl) h) ?_
            exact pj_X_rt rfl rfl ⟨_, rfl, hI, hK, ⟨by omega, by omega⟩, by omega⟩
      | false =>
        have ub11 := pj_u0_neF b11
        refine pj_X_of (fun r h => pj_R_ifF rfl b11 h) ?_
        refine pj_X_of (fun r h => pj_R_to (G0, 22, [(0, .ref 6), (1, .int b), (2, .int c)], [.int (Int32.ofInt (-1))], 0, 0) 22 2 (fun _ => rfl) h) ?_
        exact pj_X_rt rfl rfl ⟨_, rfl, hI, hK, ⟨by omega, by omega⟩, by omega⟩
def kc_102 : pj_KT := ([], [22, 23, 30, 33], [22, 23, 30, 33])
theorem ct_102 (G0 : pj_G) (hI : pj_Inv G0) (b : Int32) (c : Int32) : pj_Y 5 102 [.ref 6, .int b, .int c] G0 (fun v G' => ∃ y : Int32, v = some (.int y) ∧ pj_Inv G' ∧ pj_kpt kc_102 G0 G' ∧ ((-4 : Int) ≤ y.toInt ∧ y.toInt ≤ 99)) := by
  refine pj_Y_X (M := pj_m102) rfl rfl (Nat.le_of_ble_eq_true rfl) ?_
  have hK : pj_kpt kc_102 G0 G0 := pj_kpt_r _ _
  show pj_X _ _ G0 0 [(0, .ref 6), (1, .int b), (2, .int c)] [] _
  refine pj_X_of (fun r h => pj_R_to (G0, 3, [(0, .ref 6), (1, .int b), (2, .int c)], [.int c, .int b, .ref 6], 0, 0) 3 4 (fun _ => rfl) h) ?_
  refine pj_X_ca (vs := [.ref 6, .int b, .int c]) rfl (fun _ => rfl) ⟨Nat.le_of_ble_eq_true rfl, Nat.le_of_ble_eq_true rfl, pj_T_rcv hI rfl⟩ ⟨rfl, rfl⟩ (pj_Y_up (by decide) (ct_99 G0 hI b c)) ?_
  rintro _ G2 ⟨y1, rfl, iG2, jG2, ry1, ey1⟩
  have kG2 : pj_kpt kc_102 G0 G2 := pj_kpt_t hK (pj_kpt_s jG2 rfl)
  show pj_X _ _ G2 6 [(0, .ref 6), (1, .int b), (2, .int c)] [.int y1] _
  refine pj_X_of (fun r h => pj_R_to (G2, 8, [(3, .int y1), (0, .ref 6), (1, .int b), (2, .int c)], [.int y1], 0, 0) 8 3 (fun _ => rfl) h) ?_
  cases b3 : pj_c1 .le y1 0 with
  | true =>
    have ub3 := pj_u0_leT b3
    refine pj_X_of (fun r h => pj_R_ifT 31 rfl rfl b3 h) ?_
    refine pj_X_of (fun r h => pj_R_to (G2, 32, [(3, .int y1), (0, .ref 6), (1, .int b), (2, .int c)], [.int y1], 0, 0) 32 2 (fun _ => rfl) h) ?_
    exact pj_X_rt rfl rfl ⟨_, rfl, iG2, kG2, ⟨by omega, by omega⟩⟩
  | false =>
    have ub3 := pj_u0_leF b3
    refine pj_X_of (fun r h => pj_R_ifF rfl b3 h) ?_
    refine pj_X_of (fun r h => pj_R_to (G2, 12, [(3, .int y1), (0, .ref 6), (1, .int b), (2, .int c)], [.ref 6], 0, 0) 12 2 (fun _ => rfl) h) ?_
    refine pj_X_of (fun r h => pj_T_gr iG2 rfl rfl rfl h) ?_
    refine pj_X_of (fun r h => pj_T_gr iG2 rfl rfl rfl h) ?_
    refine pj_X_of (fun r h => pj_R_to (G2, 20, [(3, .int y1), (0, .ref 6), (1, .int b), (2, .int c)], [.int c, .int b, .ref 22], 0, 0) 20 3 (fun _ => rfl) h) ?_
    refine pj_X_of (fun r h => pj_T_is iG2 rfl rfl (by omega) (by omega) h) ?_
    show pj_X _ _ (pj_wa G2 22 b.toInt.toNat c) 21 [(3, .int y1), (0, .ref 6), (1, .int b), (2, .int c)] [] _
    obtain ⟨G4, hG4⟩ : ∃ H, H = pj_wa G2 22 b.toInt.toNat c := ⟨_, rfl⟩
    have iG4 : pj_Inv G4 := by rw [hG4]; exact pj_Inv_wa iG2 rfl (fun q hq => by cases hq; exact ⟨by show (-1 : Int) ≤ _; omega, by show _ ≤ (9 : Int); omega, by show _ ≤ (-1 : Int) ∨ (-1 : Int) ≤ _; omega⟩) (fun n hn => by cases hn)
    have kG4 : pj_kpt kc_102 G0 G4 := by rw [hG4]; exact pj_kpt_a kG2 rfl
    rw [← hG4]
    refine pj_X_of (fun r h => pj_R_to (G4, 22, [(3, .int y1), (0, .ref 6), (1, .int b), (2, .int c)], [.ref 6], 0, 0) 22 2 (fun _ => rfl) h) ?_
    refine pj_X_of (fun r h => pj_T_gr iG4 rfl rfl rfl h) ?_
    refine pj_X_of (fun r h => pj_T_gr iG4 rfl rfl rfl h) ?_
    refine pj_X_of (fun r h => pj_R_to (G4, 30, [(3, .int y1), (0, .ref 6), (1, .int b), (2, .int c)], [.int y1, .int b, .ref 23], 0, 0) 30 3 (fun _ => rfl) h) ?_
    refine pj_X_of (fun r h => pj_T_is iG4 rfl rfl (by omega) (by omega) h) ?_
    show pj_X _ _ (pj_wa G4 23 b.toInt.toNat y1) 31 [(3, .int y1), (0, .ref 6), (1, .int b), (2, .int c)] [] _
    obtain ⟨G5, hG5⟩ : ∃ H, H = pj_wa G4 23 b.toInt.toNat y1 := ⟨_, rfl⟩
    have iG5 : pj_Inv G5 := by rw [hG5]; exact pj_Inv_wa iG4 rfl (fun q hq => by cases hq) (fun n hn => by cases hn)
    have kG5 : pj_kpt kc_102 G0 G5 := by rw [hG5]; exact pj_kpt_a kG4 rfl
    rw [← hG5]
    refine pj_X_of (fun r h => pj_R_to (G5, 32, [(3, .int y1), (0, .ref 6), (1, .int b), (2, .int c)], [.int y1], 0, 0) 32 2 (fun _ => rfl) h) ?_
    exact pj_X_rt rfl rfl ⟨_, rfl, iG5, kG5, ⟨by omega, by omega⟩⟩
def kc_115 : pj_KT := ([], [30, 33], [30, 33])
theorem ct_115 (G0 : pj_G) (hI : pj_Inv G0) (b : Int32) (rb : (0 : Int) ≤ b.toInt ∧ b.toInt ≤ 5) : pj_Y 4 115 [.ref 6, .int b] G0 (fun v G' => ∃ y : Int32, v = some (.int y) ∧ pj_Inv G' ∧ pj_kpt kc_115 G0 G' ∧ ((-2147483648 : Int) ≤ y.toInt ∧ y.toInt ≤ 2147483647)) := by
  have c0_ : (Int32.ofInt (-1)).toInt = -1 := by decide
  refine pj_Y_X (M := pj_m115) rfl rfl (Nat.le_of_ble_eq_true rfl) ?_
  have hK : pj_kpt kc_115 G0 G0 := pj_kpt_r _ _
  show pj_X _ _ G0 0 [(0, .ref 6), (1, .int b)] [] _
  refine pj_X_of (fun r h => pj_R_to (G0, 1, [(0, .ref 6), (1, .int b)], [.ref 6], 0, 0) 1 2 (fun _ => rfl) h) ?_
  refine pj_X_of (fun r h => pj_T_gr hI rfl rfl rfl h) ?_
  refine pj_X_of (fun r h => pj_T_gr hI rfl rfl rfl h) ?_
  refine pj_X_of (fun r h => pj_R_to (G0, 8, [(0, .ref 6), (1, .int b)], [.int b, .ref 22], 0, 0) 8 2 (fun _ => rfl) h) ?_
  refine pj_X_of (fun r h => pj_T_il hI rfl rfl (by omega) (by omega) h) ?_
  show pj_X _ _ G0 9 [(0, .ref 6), (1, .int b)] [.int (pj_ai G0 22 b.toInt.toNat)] _
  obtain ⟨z1, hz1⟩ : ∃ z : Int32, z = pj_ai G0 22 b.toInt.toNat := ⟨_, rfl⟩
  rw [← hz1]
  have ez1 : (pj_ai G0 22 b.toInt.toNat).toInt = z1.toInt := by rw [hz1]
  have fz1_0 : (-1 : Int) ≤ z1.toInt ∧ z1.toInt ≤ 9 ∧ (z1.toInt ≤ -1 ∨ -1 ≤ z1.toInt) := by rw [hz1]; exact hI.2.2.1 22 (6, -1, 9, -1, -1) rfl _ (by show _ < 6; omega)
  refine pj_X_of (fun r h => pj_R_to (G0, 10, [(0, .ref 6), (1, .int b)], [.int (Int32.ofInt (-1)), .int z1], 0, 0) 10 2 (fun _ => rfl) h) ?_
  cases b2 : pj_c1 .ne z1 (Int32.ofInt (-1)) with
  | true =>
    have ub2 := pj_u_neT b2
    refine pj_X_of (fun r h => pj_R_icT 31 rfl rfl b2 h) ?_
    refine pj_X_of (fun r h => pj_R_to (G0, 32, [(0, .ref 6), (1, .int b)], [.ref 6], 0, 0) 32 2 (fun _ => rfl) h) ?_
    refine pj_X_of (fun r h => pj_T_gr hI rfl rfl rfl h) ?_
    refine pj_X_of (fun r h => pj_T_gr hI rfl rfl rfl h) ?_
    refine pj_X_of (fun r h => pj_R_to (G0, 39, [(0, .ref 6), (1, .int b)], [.int b, .ref 23], 0, 0) 39 2 (fun _ => rfl) h) ?_
    refine pj_X_of (fun r h => pj_T_il hI rfl rfl (by omega) (by omega) h) ?_
    show pj_X _ _ G0 40 [(0, .ref 6), (1, .int b)] [.int (pj_ai G0 23 b.toInt.toNat)] _
    obtain ⟨z3, hz3⟩ : ∃ z : Int32, z = pj_ai G0 23 b.toInt.toNat := ⟨_, rfl⟩
    rw [← hz3]
    have ez3 : (pj_ai G0 23 b.toInt.toNat).toInt = z3.toInt := by rw [hz3]
    cases b4 : pj_c1 .le z3 0 with
    | true =>
      have ub4 := pj_u0_leT b4
      refine pj_X_of (fun r h => pj_R_ifT 47 rfl rfl b4 h) ?_
      refine pj_X_of (fun r h => pj_R_to (G0, 48, [(0, .ref 6), (1, .int b)], [.ref 6], 0, 0) 48 2 (fun _ => rfl) h) ?_
      refine pj_X_of (fun r h => pj_T_gr hI rfl rfl rfl h) ?_
      refine pj_X_of (fun r h => pj_T_gi hI rfl rfl h) ?_
      show pj_X _ _ G0 54 [(0, .ref 6), (1, .int b)] [.int (pj_fi G0 21 7)] _
      obtain ⟨y5, hy5⟩ : ∃ z : Int32, z = pj_fi G0 21 7 := ⟨_, rfl⟩
      rw [← hy5]
      have ey5 : (pj_fi G0 21 7).toInt = y5.toInt := by rw [hy5]
      refine pj_X_of (fun r h => pj_R_to (G0, 57, [(0, .ref 6), (1, .int b)], [.int (Int32.ofInt (-1)), .int b, .ref 6, .int y5], 0, 0) 57 4 (fun _ => rfl) h) ?_
      refine pj_X_ca (vs := [.ref 6, .int b, .int (Int32.ofInt (-1))]) rfl (fun _ => rfl) ⟨Nat.le_of_ble_eq_true rfl, Nat.le_of_ble_eq_true rfl, pj_T_rcv hI rfl⟩ ⟨rfl, rfl⟩ (pj_Y_up (by decide) (ct_101 G0 hI b (Int32.ofInt (-1)) ⟨by omega, by omega⟩ ⟨by omega, by omega⟩)) ?_
      rintro _ G7 ⟨y6, rfl, iG7, jG7, ry6⟩
      have kG7 : pj_kpt kc_115 G0 G7 := pj_kpt_t hK (pj_kpt_s jG7 rfl)
      show pj_X _ _ G7 60 [(0, .ref 6), (1, .int b)] [.int y6, .int y5] _
      refine pj_X_of (fun r h => pj_R_to (G7, 61, [(0, .ref 6), (1, .int b)], [.int (y5 + y6)], 0, 0) 61 2 (fun _ => rfl) h) ?_
      obtain ⟨z8, hz8⟩ : ∃ z : Int32, z = y5 + y6 := ⟨_, rfl⟩
      rw [← hz8]
      exact pj_X_rt rfl rfl ⟨_, rfl, iG7, kG7, pj_i32 _⟩
    | false =>
      have ub4 := pj_u0_leF b4
      refine pj_X_of (fun r h => pj_R_ifF rfl b4 h) ?_
      refine pj_X_of (fun r h => pj_R_to (G0, 61, [(0, .ref 6), (1, .int b)], [.int (Int32.ofInt (-1))], 0, 0) 61 3 (fun _ => rfl) h) ?_
      exact pj_X_rt rfl rfl ⟨_, rfl, hI, hK, pj_i32 _⟩
  | false =>
    have ub2 := pj_u_neF b2
    refine pj_X_of (fun r h => pj_R_icF rfl b2 h) ?_
    refine pj_X_of (fun r h => pj_R_to (G0, 14, [(0, .ref 6), (1, .int b)], [.ref 6], 0, 0) 14 2 (fun _ => rfl) h) ?_
    refine pj_X_of (fun r h => pj_T_gr hI rfl rfl rfl h) ?_
    refine pj_X_of (fun r h => pj_T_gi hI rfl rfl h) ?_
    show pj_X _ _ G0 20 [(0, .ref 6), (1, .int b)] [.int (pj_fi G0 21 7)] _
    obtain ⟨y9, hy9⟩ : ∃ z : Int32, z = pj_fi G0 21 7 := ⟨_, rfl⟩
    rw [← hy9]
    have ey9 : (pj_fi G0 21 7).toInt = y9.toInt := by rw [hy9]
    refine pj_X_of (fun r h => pj_R_to (G0, 21, [(0, .ref 6), (1, .int b)], [.ref 6, .int y9], 0, 0) 21 2 (fun _ => rfl) h) ?_
    refine pj_X_of (fun r h => pj_T_gr hI rfl rfl rfl h) ?_
    refine pj_X_of (fun r h => pj_T_gr hI rfl rfl rfl h) ?_
    refine pj_X_of (fun r h => pj_R_to (G0, 28, [(0, .ref 6), (1, .int b)], [.int b, .ref 23, .int y9], 0, 0) 28 2 (fun _ => rfl) h) ?_
    refine pj_X_of (fun r h => pj_T_il hI rfl rfl (by omega) (by omega) h) ?_
    show pj_X _ _ G0 29 [(0, .ref 6), (1, .int b)] [.int (pj_ai G0 23 b.toInt.toNat), .int y9] _
    obtain ⟨z10, hz10⟩ : ∃ z : Int32, z = pj_ai G0 23 b.toInt.toNat := ⟨_, rfl⟩
    rw [← hz10]
    have ez10 : (pj_ai G0 23 b.toInt.toNat).toInt = z10.toInt := by rw [hz10]
    refine pj_X_of (fun r h => pj_R_to (G0, 30, [(0, .ref 6), (1, .int b)], [.int (y9 + z10)], 0, 0) 30 2 (fun _ => rfl) h) ?_
    obtain ⟨z11, hz11⟩ : ∃ z : Int32, z = y9 + z10 := ⟨_, rfl⟩
    rw [← hz11]
    exact pj_X_rt rfl rfl ⟨_, rfl, hI, hK, pj_i32 _⟩
