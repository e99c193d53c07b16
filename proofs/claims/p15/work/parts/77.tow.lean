/-! LOOKUP SWITCHES -/
def pj_lne (x : Int) : List (Int × Int) → Prop
  | [] => True
  | q :: t => ¬ q.1 = x ∧ pj_lne x t
theorem pj_lkd {x d : Int} : ∀ l : List (Int × Int), pj_lne x l → Op.lookupswitch.offset l d x = d
  | [], _ => rfl
  | (a, o) :: t, h => by
    rw [Op.lookupswitch.offset_cons, if_neg h.1]
    exact pj_lkd t h.2
theorem pj_R_lw {C : Nat → pj_F} {n0 : Nat} {xs : Nat → Int32} {M : pj_M} {r : Option Value × pj_G × Nat × Nat} {G : pj_G} {pc mc ms : Nat} {L : pj_L} {S : List Value} {dflt : Int} {ps : Array (Int × Int)} {len : Nat} {inf : List Nat} {z : Int} {x : Int32} (tgt : Nat) (hf : pj_find M.2.2.2.2.2 pc = some (.lookupswitch dflt ps, len, inf, z)) {n : Int} (hx : x.toInt = n) (hk : (if 0 ≤ (pc : Int) + Op.lookupswitch.offset ps.toList dflt n then some ((pc : Int) + Op.lookupswitch.offset ps.toList dflt n).toNat else none) = some tgt) (h2 : pj_R C n0 xs M (G, tgt, L, S, mc, ms) r) : pj_R C n0 xs M (G, pc, L, .int x :: S, mc, ms) r := by
  refine pj_R_st (t' := (G, tgt, L, S, 0, 0)) hf (fun call => ?_) h2
  show (if 0 ≤ (pc : Int) + Op.lookupswitch.offset ps.toList dflt x.toInt then some (((pc : Int) + Op.lookupswitch.offset ps.toList dflt x.toInt).toNat, S) else none).map (fun r => ((G, r.1, L, r.2, 0, 0) : pj_T)) = _
  rw [hx]
  split at hk
  · rename_i h
    rw [if_pos h]
    cases hk
    rfl
  · cases hk
theorem pj_R_ld {C : Nat → pj_F} {n0 : Nat} {xs : Nat → Int32} {M : pj_M} {r : Option Value × pj_G × Nat × Nat} {G : pj_G} {pc mc ms : Nat} {L : pj_L} {S : List Value} {dflt : Int} {ps : Array (Int × Int)} {len : Nat} {inf : List Nat} {z : Int} {x : Int32} (tgt : Nat) (hf : pj_find M.2.2.2.2.2 pc = some (.lookupswitch dflt ps, len, inf, z)) (hx : pj_lne x.toInt ps.toList) (hk : (if 0 ≤ (pc : Int) + dflt then some ((pc : Int) + dflt).toNat else none) = some tgt) (h2 : pj_R C n0 xs M (G, tgt, L, S, mc, ms) r) : pj_R C n0 xs M (G, pc, L, .int x :: S, mc, ms) r := by
  refine pj_R_st (t' := (G, tgt, L, S, 0, 0)) hf (fun call => ?_) h2
  show (if 0 ≤ (pc : Int) + Op.lookupswitch.offset ps.toList dflt x.toInt then some (((pc : Int) + Op.lookupswitch.offset ps.toList dflt x.toInt).toNat, S) else none).map (fun r => ((G, r.1, L, r.2, 0, 0) : pj_T)) = _
  rw [pj_lkd _ hx]
  split at hk
  · rename_i h
    rw [if_pos h]
    cases hk
    rfl
  · cases hk
noncomputable def F_66x (G0 : pj_G) (g : Int32) (a : Int32) (b : Int32) : Int32 := if g.toInt = 42 then (pj_nm (a * b) (fun z2 => z2)) else (if g.toInt = 43 then (pj_nm (a + b) (fun z4 => z4)) else (if g.toInt = 45 then (pj_nm (a - b) (fun z6 => z6)) else (if g.toInt = 47 then (cond (pj_c1 .ne b 0) (pj_nm (a / b) (fun z9 => z9)) (Int32.ofInt 0)) else (if g.toInt = 60 then (cond (pj_c1 .ge a b) (Int32.ofInt 0) (Int32.ofInt 1)) else (if g.toInt = 62 then (cond (pj_c1 .le a b) (Int32.ofInt 0) (Int32.ofInt 1)) else (cond (pj_c1 .ne a b) (Int32.ofInt 0) (Int32.ofInt 1)))))))
theorem F_66x_e (G0 : pj_G) (g : Int32) (a : Int32) (b : Int32) : F_66x G0 g a b = if g.toInt = 42 then (pj_nm (a * b) (fun z2 => z2)) else (if g.toInt = 43 then (pj_nm (a + b) (fun z4 => z4)) else (if g.toInt = 45 then (pj_nm (a - b) (fun z6 => z6)) else (if g.toInt = 47 then (cond (pj_c1 .ne b 0) (pj_nm (a / b) (fun z9 => z9)) (Int32.ofInt 0)) else (if g.toInt = 60 then (cond (pj_c1 .ge a b) (Int32.ofInt 0) (Int32.ofInt 1)) else (if g.toInt = 62 then (cond (pj_c1 .le a b) (Int32.ofInt 0) (Int32.ofInt 1)) else (cond (pj_c1 .ne a b) (Int32.ofInt 0) (Int32.ofInt 1))))))) := rfl
theorem ct_66x (G0 : pj_G) (hI : pj_Inv G0) (g : Int32) (a : Int32) (b : Int32) : pj_Y 1 66 [.int g, .int a, .int b] G0 (fun v' G' => ∃ y : Int32, v' = some (.int y) ∧ G0 = G' ∧ ((-2147483648 : Int) ≤ y.toInt ∧ y.toInt ≤ 2147483647) ∧ (y = F_66x G0 g a b)) := by
  have c0_ : (Int32.ofInt 0).toInt = 0 := by decide
  have c1_ : (Int32.ofInt 1).toInt = 1 := by decide
  refine pj_Y_X (M := pj_m66) rfl rfl (Nat.le_of_ble_eq_true rfl) ?_
  have hK : pj_kpt ([], [], []) G0 G0 := pj_kpt_r _ _
  show pj_X _ _ G0 0 [(0, .int g), (1, .int a), (2, .int b)] [] _
  rw [F_66x_e]
  refine pj_X_of (fun r h => pj_R_to (G0, 1, [(0, .int g), (1, .int a), (2, .int b)], [.int g], 0, 0) 1 2 (fun _ => rfl) h) ?_
  by_cases t1 : g.toInt = 42
  · refine pj_X_of (fun r h => pj_R_lw 68 rfl (n := 42) t1 rfl h) ?_
    rw [if_pos t1]
    refine pj_X_of (fun r h => pj_R_to (G0, 71, [(0, .int g), (1, .int a), (2, .int b)], [.int (a * b)], 0, 0) 71 4 (fun _ => rfl) h) ?_
    obtain ⟨z2, hz2⟩ : ∃ z : Int32, z = a * b := ⟨_, rfl⟩
    rw [← hz2]
    rw [pj_nm_e]
    exact pj_X_rt rfl rfl ⟨_, rfl, rfl, pj_i32 _, rfl⟩
  rw [if_neg t1]
  by_cases t3 : g.toInt = 43
  · refine pj_X_of (fun r h => pj_R_lw 60 rfl (n := 43) t3 rfl h) ?_
    rw [if_pos t3]
    refine pj_X_of (fun r h => pj_R_to (G0, 63, [(0, .int g), (1, .int a), (2, .int b)], [.int (a + b)], 0, 0) 63 4 (fun _ => rfl) h) ?_
    obtain ⟨z4, hz4⟩ : ∃ z : Int32, z = a + b := ⟨_, rfl⟩
    rw [← hz4]
    rw [pj_nm_e]
    exact pj_X_rt rfl rfl ⟨_, rfl, rfl, pj_i32 _, rfl⟩
  rw [if_neg t3]
  by_cases t5 : g.toInt = 45
  · refine pj_X_of (fun r h => pj_R_lw 64 rfl (n := 45) t5 rfl h) ?_
    rw [if_pos t5]
    refine pj_X_of (fun r h => pj_R_to (G0, 67, [(0, .int g), (1, .int a), (2, .int b)], [.int (a - b)], 0, 0) 67 4 (fun _ => rfl) h) ?_
    obtain ⟨z6, hz6⟩ : ∃ z : Int32, z = a - b := ⟨_, rfl⟩
    rw [← hz6]
    rw [pj_nm_e]
    exact pj_X_rt rfl rfl ⟨_, rfl, rfl, pj_i32 _, rfl⟩
  rw [if_neg t5]
  by_cases t7 : g.toInt = 47
  · refine pj_X_of (fun r h => pj_R_lw 72 rfl (n := 47) t7 rfl h) ?_
    rw [if_pos t7]
    refine pj_X_of (fun r h => pj_R_to (G0, 73, [(0, .int g), (1, .int a), (2, .int b)], [.int b], 0, 0) 73 2 (fun _ => rfl) h) ?_
    cases b8 : pj_c1 .ne b 0 with
    | true =>
      rw [pj_cT]
      have ub8 := pj_u0_neT b8
      refine pj_X_of (fun r h => pj_R_ifT 80 rfl rfl b8 h) ?_
      refine pj_X_of (fun r h => pj_R_to (G0, 82, [(0, .int g), (1, .int a), (2, .int b)], [.int b, .int a], 0, 0) 82 3 (fun _ => rfl) h) ?_
      refine pj_X_of (fun r h => pj_R_dv rfl (pj_nz (by omega)) h) ?_
      show pj_X _ _ G0 83 [(0, .int g), (1, .int a), (2, .int b)] [.int (a / b)] _
      obtain ⟨z9, hz9⟩ : ∃ z : Int32, z = a / b := ⟨_, rfl⟩
      rw [← hz9]
      rw [pj_nm_e]
      exact pj_X_rt rfl rfl ⟨_, rfl, rfl, pj_i32 _, rfl⟩
    | false =>
      rw [pj_cF]
      have ub8 := pj_u0_neF b8
      refine pj_X_of (fun r h => pj_R_ifF rfl b8 h) ?_
      refine pj_X_of (fun r h => pj_R_to (G0, 83, [(0, .int g), (1, .int a), (2, .int b)], [.int (Int32.ofInt 0)], 0, 0) 83 3 (fun _ => rfl) h) ?_
      exact pj_X_rt rfl rfl ⟨_, rfl, rfl, pj_i32 _, rfl⟩
  rw [if_neg t7]
  by_cases t10 : g.toInt = 60
  · refine pj_X_of (fun r h => pj_R_lw 84 rfl (n := 60) t10 rfl h) ?_
    rw [if_pos t10]
    refine pj_X_of (fun r h => pj_R_to (G0, 86, [(0, .int g), (1, .int a), (2, .int b)], [.int b, .int a], 0, 0) 86 3 (fun _ => rfl) h) ?_
    cases b11 : pj_c1 .ge a b with
    | true =>
      rw [pj_cT]
      have ub11 := pj_u_geT b11
      refine pj_X_of (fun r h => pj_R_icT 93 rfl rfl b11 h) ?_
      refine pj_X_of (fun r h => pj_R_to (G0, 94, [(0, .int g), (1, .int a), (2, .int b)], [.int (Int32.ofInt 0)], 0, 0) 94 2 (fun _ => rfl) h) ?_
      exact pj_X_rt rfl rfl ⟨_, rfl, rfl, pj_i32 _, rfl⟩
    | false =>
      rw [pj_cF]
      have ub11 := pj_u_geF b11
      refine pj_X_of (fun r h => pj_R_icF rfl b11 h) ?_
      refine pj_X_of (fun r h => pj_R_to (G0, 94, [(0, .int g), (1, .int a), (2, .int b)], [.int (Int32.ofInt 1)], 0, 0) 94 3 (fun _ => rfl) h) ?_
      exact pj_X_rt rfl rfl ⟨_, rfl, rfl, pj_i32 _, rfl⟩
  rw [if_neg t10]
  by_cases t12 : g.toInt = 62
  · refine pj_X_of (fun r h => pj_R_lw 95 rfl (n := 62) t12 rfl h) ?_
    rw [if_pos t12]
    refine pj_X_of (fun r h => pj_R_to (G0, 97, [(0, .int g), (1, .int a), (2, .int b)], [.int b, .int a], 0, 0) 97 3 (fun _ => rfl) h) ?_
    cases b13 : pj_c1 .le a b with
    | true =>
      rw [pj_cT]
      have ub13 := pj_u_leT b13
      refine pj_X_of (fun r h => pj_R_icT 104 rfl rfl b13 h) ?_
      refine pj_X_of (fun r h => pj_R_to (G0, 105, [(0, .int g), (1, .int a), (2, .int b)], [.int (Int32.ofInt 0)], 0, 0) 105 2 (fun _ => rfl) h) ?_
      exact pj_X_rt rfl rfl ⟨_, rfl, rfl, pj_i32 _, rfl⟩
    | false =>
      rw [pj_cF]
      have ub13 := pj_u_leF b13
      refine pj_X_of (fun r h => pj_R_icF rfl b13 h) ?_
      refine pj_X_of (fun r h => pj_R_to (G0, 105, [(0, .int g), (1, .int a), (2, .int b)], [.int (Int32.ofInt 1)], 0, 0) 105 3 (fun _ => rfl) h) ?_
      exact pj_X_rt rfl rfl ⟨_, rfl, rfl, pj_i32 _, rfl⟩
  rw [if_neg t12]
  refine pj_X_of (fun r h => pj_R_ld 106 rfl ⟨by show ¬ (42 : Int) = _; omega, by show ¬ (43 : Int) = _; omega, by show ¬ (45 : Int) = _; omega, by show ¬ (47 : Int) = _; omega, by show ¬ (60 : Int) = _; omega, by show ¬ (62 : Int) = _; omega, trivial⟩ rfl h) ?_
  refine pj_X_of (fun r h => pj_R_to (G0, 108, [(0, .int g), (1, .int a), (2, .int b)], [.int b, .int a], 0, 0) 108 3 (fun _ => rfl) h) ?_
  cases b14 : pj_c1 .ne a b with
  | true =>
    rw [pj_cT]
    have ub14 := pj_u_neT b14
    refine pj_X_of (fun r h => pj_R_icT 115 rfl rfl b14 h) ?_
    refine pj_X_of (fun r h => pj_R_to (G0, 116, [(0, .int g), (1, .int a), (2, .int b)], [.int (Int32.ofInt 0)], 0, 0) 116 2 (fun _ => rfl) h) ?_
    exact pj_X_rt rfl rfl ⟨_, rfl, rfl, pj_i32 _, rfl⟩
  | false =>
    rw [pj_cF]
    have ub14 := pj_u_neF b14
    refine pj_X_of (fun r h => pj_R_icF rfl b14 h) ?_
    refine pj_X_of (fun r h => pj_R_to (G0, 116, [(0, .int g), (1, .int a), (2, .int b)], [.int (Int32.ofInt 1)], 0, 0) 116 3 (fun _ => rfl) h) ?_
    exact pj_X_rt rfl rfl ⟨_, rfl, rfl, pj_i32 _, rfl⟩
def kc_65x : pj_KT := ([], [30], [30])
noncomputable def L_65x (G0 : pj_G) (fu : Nat) : Int32 → Int32 → pj_G → Int32 × pj_G := Nat.rec (motive := fun _ => Int32 → Int32 → pj_G → Int32 × pj_G) (fun _ _ G => (0, G)) (fun _ ih v2 v3 G => pj_nm (pj_fi G 27 1) (fun y1 => cond (pj_c1 .ge v3 y1) (pj_nm (pj_ai G 30 (Int32.ofInt 0).toInt.toNat) (fun z3 => (z3, G))) (cond (pj_rb G 27 0 28) (pj_nm (pj_ai G 28 v3.toInt.toNat) (fun z5 => cond (pj_c1 .ge z5 ((Int16.ofInt 2000).toInt32)) (cond (pj_c1 .ne z5 ((Int16.ofInt 2000).toInt32)) (cond (pj_c1 .le v2 (Int32.ofInt 1)) (pj_nm (v3 + Int32.ofInt 1) (fun z9 => ih v2 z9 G)) (pj_nm (v2 + Int32.ofInt (-1)) (fun z10 => pj_nm (z10 - (Int32.ofInt 1)) (fun z11 => pj_nm (z5 - ((Int16.ofInt 3000).toInt32)) (fun z12 => pj_nm (pj_ai G 30 z11.toInt.toNat) (fun z13 => pj_nm (pj_ai G 30 z10.toInt.toNat) (fun z14 => pj_nm (F_66x G z12 z13 z14) (fun y15 => pj_nm (pj_wa G 30 z11.toInt.toNat y15) (fun G16 => pj_nm (v3 + Int32.ofInt 1) (fun z17 => ih z10 z17 G16)))))))))) (cond (pj_c1 .le v2 0) (pj_nm (v3 + Int32.ofInt 1) (fun z19 => ih v2 z19 G)) (pj_nm (v2 - (Int32.ofInt 1)) (fun z20 => pj_nm (pj_ai G 30 z20.toInt.toNat) (fun z21 => pj_nm (-z21) (fun z22 => pj_nm (pj_wa G 30 z20.toInt.toNat z22) (fun G23 => pj_nm (v3 + Int32.ofInt 1) (fun z24 => ih v2 z24 G23)))))))) (cond (pj_c1 .ge v2 ((Int8.ofInt 40).toInt32)) (pj_nm (v2 + Int32.ofInt (-1)) (fun z26 => pj_nm (z26 - (Int32.ofInt 1)) (fun z27 => pj_nm (z5 - ((Int16.ofInt 3000).toInt32)) (fun z28 => pj_nm (pj_ai G 30 z27.toInt.toNat) (fun z29 => pj_nm (pj_ai G 30 z26.toInt.toNat) (fun z30 => pj_nm (F_66x G z28 z29 z30) (fun y31 => pj_nm (pj_wa G 30 z27.toInt.toNat y31) (fun G32 => pj_nm (v3 + Int32.ofInt 1) (fun z33 => ih z26 z33 G32))))))))) (cond (pj_c1 .ge z5 ((Int16.ofInt 1000).toInt32)) (pj_nm (z5 - ((Int16.ofInt 1000).toInt32)) (fun z35 => pj_nm (pj_ai G 33 z35.toInt.toNat) (fun z36 => pj_nm (pj_wa G 30 v2.toInt.toNat z36) (fun G37 => pj_nm (v2 + Int32.ofInt 1) (fun z38 => pj_nm (v3 + Int32.ofInt 1) (fun z39 => ih z38 z39 G37)))))) (pj_nm (pj_wa G 30 v2.toInt.toNat z5) (fun G40 => pj_nm (v2 + Int32.ofInt 1) (fun z41 => pj_nm (v3 + Int32.ofInt 1) (fun z42 => ih z41 z42 G40)))))))) (pj_nm (pj_ai G 29 v3.toInt.toNat) (fun z43 => cond (pj_c1 .ge z43 ((Int16.ofInt 2000).toInt32)) (cond (pj_c1 .ne z43 ((Int16.ofInt 2000).toInt32)) (cond (pj_c1 .le v2 (Int32.ofInt 1)) (pj_nm (v3 + Int32.ofInt 1) (fun z47 => ih v2 z47 G)) (pj_nm (v2 + Int32.ofInt (-1)) (fun z48 => pj_nm (z48 - (Int32.ofInt 1)) (fun z49 => pj_nm (z43 - ((Int16.ofInt 3000).toInt32)) (fun z50 => pj_nm (pj_ai G 30 z49.toInt.toNat) (fun z51 => pj_nm (pj_ai G 30 z48.toInt.toNat) (fun z52 => pj_nm (F_66x G z50 z51 z52) (fun y53 => pj_nm (pj_wa G 30 z49.toInt.toNat y53) (fun G54 => pj_nm (v3 + Int32.ofInt 1) (fun z55 => ih z48 z55 G54)))))))))) (cond (pj_c1 .le v2 0) (pj_nm (v3 + Int32.ofInt 1) (fun z57 => ih v2 z57 G)) (pj_nm (v2 - (Int32.ofInt 1)) (fun z58 => pj_nm (pj_ai G 30 z58.toInt.toNat) (fun z59 => pj_nm (-z59) (fun z60 => pj_nm (pj_wa G 30 z58.toInt.toNat z60) (fun G61 => pj_nm (v3 + Int32.ofInt 1) (fun z62 => ih v2 z62 G61)))))))) (cond (pj_c1 .ge v2 ((Int8.ofInt 40).toInt32)) (pj_nm (v2 + Int32.ofInt (-1)) (fun z64 => pj_nm (z64 - (Int32.ofInt 1)) (fun z65 => pj_nm (z43 - ((Int16.ofInt 3000).toInt32)) (fun z66 => pj_nm (pj_ai G 30 z65.toInt.toNat) (fun z67 => pj_nm (pj_ai G 30 z64.toInt.toNat) (fun z68 => pj_nm (F_66x G z66 z67 z68) (fun y69 => pj_nm (pj_wa G 30 z65.toInt.toNat y69) (fun G70 => pj_nm (v3 + Int32.ofInt 1) (fun z71 => ih z64 z71 G70))))))))) (cond (pj_c1 .ge z43 ((Int16.ofInt 1000).toInt32)) (pj_nm (z43 - ((Int16.ofInt 1000).toInt32)) (fun z73 => pj_nm (pj_ai G 33 z73.toInt.toNat) (fun z74 => pj_nm (pj_wa G 30 v2.toInt.toNat z74) (fun G75 => pj_nm (v2 + Int32.ofInt 1) (fun z76 => pj_nm (v3 + Int32.ofInt 1) (fun z77 => ih z76 z77 G75)))))) (pj_nm (pj_wa G 30 v2.toInt.toNat z43) (fun G78 => pj_nm (v2 + Int32.ofInt 1) (fun z79 => pj_nm (v3 + Int32.ofInt 1) (fun z80 => ih z79 z80 G78))))))))))) fu
theorem L_65x_s0 (G0 : pj_G) (fu : Nat) (v2 : Int32) (v3 : Int32) (G : pj_G) : L_65x G0 (fu + 1) v2 v3 G = pj_nm (pj_fi G 27 1) (fun y1 => cond (pj_c1 .ge v3 y1) (pj_nm (pj_ai G 30 (Int32.ofInt 0).toInt.toNat) (fun z3 => (z3, G))) (cond (pj_rb G 27 0 28) (pj_nm (pj_ai G 28 v3.toInt.toNat) (fun z5 => cond (pj_c1 .ge z5 ((Int16.ofInt 2000).toInt32)) (cond (pj_c1 .ne z5 ((Int16.ofInt 2000).toInt32)) (cond (pj_c1 .le v2 (Int32.ofInt 1)) (pj_nm (v3 + Int32.ofInt 1) (fun z9 => L_65x G0 fu v2 z9 G)) (pj_nm (v2 + Int32.ofInt (-1)) (fun z10 => pj_nm (z10 - (Int32.ofInt 1)) (fun z11 => pj_nm (z5 - ((Int16.ofInt 3000).toInt32)) (fun z12 => pj_nm (pj_ai G 30 z11.toInt.toNat) (fun z13 => pj_nm (pj_ai G 30 z10.toInt.toNat) (fun z14 => pj_nm (F_66x G z12 z13 z14) (fun y15 => pj_nm (pj_wa G 30 z11.toInt.toNat y15) (fun G16 => pj_nm (v3 + Int32.ofInt 1) (fun z17 => L_65x G0 fu z10 z17 G16)))))))))) (cond (pj_c1 .le v2 0) (pj_nm (v3 + Int32.ofInt 1) (fun z19 => L_65x G0 fu v2 z19 G)) (pj_nm (v2 - (Int32.ofInt 1)) (fun z20 => pj_nm (pj_ai G 30 z20.toInt.toNat) (fun z21 => pj_nm (-z21) (fun z22 => pj_nm (pj_wa G 30 z20.toInt.toNat z22) (fun G23 => pj_nm (v3 + Int32.ofInt 1) (fun z24 => L_65x G0 fu v2 z24 G23)))))))) (cond (pj_c1 .ge v2 ((Int8.ofInt 40).toInt32)) (pj_nm (v2 + Int32.ofInt (-1)) (fun z26 => pj_nm (z26 - (Int32.ofInt 1)) (fun z27 => pj_nm (z5 - ((Int16.ofInt 3000).toInt32)) (fun z28 => pj_nm (pj_ai G 30 z27.toInt.toNat) (fun z29 => pj_nm (pj_ai G 30 z26.toInt.toNat) (fun z30 => pj_nm (F_66x G z28 z29 z30) (fun y31 => pj_nm (pj_wa G 30 z27.toInt.toNat y31) (fun G32 => pj_nm (v3 + Int32.ofInt 1) (fun z33 => L_65x G0 fu z26 z33 G32))))))))) (cond (pj_c1 .ge z5 ((Int16.ofInt 1000).toInt32)) (pj_nm (z5 - ((Int16.ofInt 1000).toInt32)) (fun z35 => pj_nm (pj_ai G 33 z35.toInt.toNat) (fun z36 => pj_nm (pj_wa G 30 v2.toInt.toNat z36) (fun G37 => pj_nm (v2 + Int32.ofInt 1) (fun z38 => pj_nm (v3 + Int32.ofInt 1) (fun z39 => L_65x G0 fu z38 z39 G37)))))) (pj_nm (pj_wa G 30 v2.toInt.toNat z5) (fun G40 => pj_nm (v2 + Int32.ofInt 1) (fun z41 => pj_nm (v3 + Int32.ofInt 1) (fun z42 => L_65x G0 fu z41 z42 G40)))))))) (pj_nm (pj_ai G 29 v3.toInt.toNat) (fun z43 => cond (pj_c1 .ge z43 ((Int16.ofInt 2000).toInt32)) (cond (pj_c1 .ne z43 ((Int16.ofInt 2000).toInt32)) (cond (pj_c1 .le v2 (Int32.ofInt 1)) (pj_nm (v3 + Int32.ofInt 1) (fun z47 => L_65x G0 fu v2 z47 G)) (pj_nm (v2 + Int32.ofInt (-1)) (fun z48 => pj_nm (z48 - (Int32.ofInt 1)) (fun z49 => pj_nm (z43 - ((Int16.ofInt 3000).toInt32)) (fun z50 => pj_nm (pj_ai G 30 z49.toInt.toNat) (fun z51 => pj_nm (pj_ai G 30 z48.toInt.toNat) (fun z52 => pj_nm (F_66x G z50 z51 z52) (fun y53 => pj_nm (pj_wa G 30 z49.toInt.toNat y53) (fun G54 => pj_nm (v3 + Int32.ofInt 1) (fun z55 => L_65x G0 fu z48 z55 G54)))))))))) (cond (pj_c1 .le v2 0) (pj_nm (v3 + Int32.ofInt 1) (fun z57 => L_65x G0 fu v2 z57 G)) (pj_nm (v2 - (Int32.ofInt 1)) (fun z58 => pj_nm (pj_ai G 30 z58.toInt.toNat) (fun z59 => pj_nm (-z59) (fun z60 => pj_nm (pj_wa G 30 z58.toInt.toNat z60) (fun G61 => pj_nm (v3 + Int32.ofInt 1) (fun z62 => L_65x G0 fu v2 z62 G61)))))))) (cond (pj_c1 .ge v2 ((Int8.ofInt 40).toInt32)) (pj_nm (v2 + Int32.ofInt (-1)) (fun z64 => pj_nm (z64 - (Int32.ofInt 1)) (fun z65 => pj_nm (z43 - ((Int16.ofInt 3000).toInt32)) (fun z66 => pj_nm (pj_ai G 30 z65.toInt.toNat) (fun z67 => pj_nm (pj_ai G 30 z64.toInt.toNat) (fun z68 => pj_nm (F_66x G z66 z67 z68) (fun y69 => pj_nm (pj_wa G 30 z65.toInt.toNat y69) (fun G70 => pj_nm (v3 + Int32.ofInt 1) (fun z71 => L_65x G0 fu z64 z71 G70))))))))) (cond (pj_c1 .ge z43 ((Int16.ofInt 1000).toInt32)) (pj_nm (z43 - ((Int16.ofInt 1000).toInt32)) (fun z73 => pj_nm (pj_ai G 33 z73.toInt.toNat) (fun z74 => pj_nm (pj_wa G 30 v2.toInt.toNat z74) (fun G75 => pj_nm (v2 + Int32.ofInt 1) (fun z76 => pj_nm (v3 + Int32.ofInt 1) (fun z77 => L_65x G0 fu z76 z77 G75)))))) (pj_nm (pj_wa G 30 v2.toInt.toNat z43) (fun G78 => pj_nm (v2 + Int32.ofInt 1) (fun z79 => pj_nm (v3 + Int32.ofInt 1) (fun z80 => L_65x G0 fu z79 z80 G78)))))))))) := rfl
noncomputable def F_65x (G0 : pj_G) : Int32 × pj_G := pj_nm (pj_fi G0 27 1) (fun y81 => cond (pj_c1 .ne y81 0) (L_65x G0 41 (Int32.ofInt 0) (Int32.ofInt 0) G0) (pj_nm (pj_ai G0 33 (Int32.ofInt 0).toInt.toNat) (fun z83 => pj_nm (z83 / ((Int8.ofInt 9).toInt32)) (fun z84 => pj_nm (pj_ai G0 33 (Int32.ofInt 1).toInt.toNat) (fun z85 => pj_nm (z85 * (Int32.ofInt 2)) (fun z86 => pj_nm (z84 + z86) (fun z87 => pj_nm (z87 + (Int32.ofInt 1)) (fun z88 => (z88, G0)))))))))
theorem F_65x_e (G0 : pj_G) : F_65x G0 = pj_nm (pj_fi G0 27 1) (fun y81 => cond (pj_c1 .ne y81 0) (L_65x G0 41 (Int32.ofInt 0) (Int32.ofInt 0) G0) (pj_nm (pj_ai G0 33 (Int32.ofInt 0).toInt.toNat) (fun z83 => pj_nm (z83 / ((Int8.ofInt 9).toInt32)) (fun z84 => pj_nm (pj_ai G0 33 (Int32.ofInt 1).toInt.toNat) (fun z85 => pj_nm (z85 * (Int32.ofInt 2)) (fun z86 => pj_nm (z84 + z86) (fun z87 => pj_nm (z87 + (Int32.ofInt 1)) (fun z88 => (z88, G0))))))))) := rfl
theorem lp_ct_65x (G0 : pj_G) (hI0 : pj_Inv G0) : ∀ mn : Nat, (∀ (G : pj_G) (hI : pj_Inv G) (hK : pj_kpt kc_65x G0 G) (v2 : Int32) (v3 : Int32), ((0 : Int) ≤ v2.toInt ∧ v2.toInt ≤ 40) → ((0 : Int) ≤ v3.toInt ∧ v3.toInt ≤ 40) → 40 - v3.toInt < (mn : Int) → pj_X 1 pj_m65 G 26 [(0, .ref 27), (1, .ref 33), (2, .int v2), (3, .int v3)] [] (fun v' G' => ∃ y : Int32, v' = some (.int y) ∧ pj_Inv G' ∧ pj_kpt kc_65x G0 G' ∧ ((-2147483648 : Int) ≤ y.toInt ∧ y.toInt ≤ 2147483647) ∧ ((y, G') = L_65x G0 mn v2 v3 G))) := by
  have c0_ : ((Int16.ofInt 1000).toInt32).toInt = 1000 := by decide
  have c1_ : ((Int16.ofInt 2000).toInt32).toInt = 2000 := by decide
  have c2_ : ((Int16.ofInt 3000).toInt32).toInt = 3000 := by decide
  have c3_ : ((Int8.ofInt 40).toInt32).toInt = 40 := by decide
  have c4_ : ((Int8.ofInt 9).toInt32).toInt = 9 := by decide
  have c5_ : (Int32.ofInt (-1)).toInt = -1 := by decide
  have c6_ : (Int32.ofInt 0).toInt = 0 := by decide
  have c7_ : (Int32.ofInt 1).toInt = 1 := by decide
  have c8_ : (Int32.ofInt 2).toInt = 2 := by decide
  intro mn
  induction mn with
  | zero =>
    intro G hI hK v2 v3 rv2 rv3 hm
    exfalso
    omega
  | succ mn ih =>
    intro G hI hK v2 v3 rv2 rv3 hm
    rw [L_65x_s0]
    refine pj_X_of (fun r h => pj_R_to (G, 28, [(0, .ref 27), (1, .ref 33), (2, .int v2), (3, .int v3)], [.ref 27, .int v3], 0, 0) 28 3 (fun _ => rfl) h) ?_
    refine pj_X_of (fun r h => pj_T_gi hI rfl rfl h) ?_
    show pj_X _ _ G 31 [(0, .ref 27), (1, .ref 33), (2, .int v2), (3, .int v3)] [.int (pj_fi G 27 1), .int v3] _
    obtain ⟨y1, hy1⟩ : ∃ z : Int32, z = pj_fi G 27 1 := ⟨_, rfl⟩
    rw [← hy1]
    rw [pj_nm_e]
    have ey1 : (pj_fi G 27 1).toInt = y1.toInt := by rw [hy1]
    have ry1 : (0 : Int) ≤ y1.toInt ∧ y1.toInt ≤ 40 := by rw [hy1]; exact hI.2.1 27 1 (0, 40) rfl
    cases b2 : pj_c1 .ge v3 y1 with
    | true =>
      rw [pj_cT]
      have ub2 := pj_u_geT b2
      refine pj_X_of (fun r h => pj_R_icT 166 rfl rfl b2 h) ?_
      refine pj_X_of (fun r h => pj_R_to (G, 167, [(0, .ref 27), (1, .ref 33), (2, .int v2), (3, .int v3)], [.ref 27], 0, 0) 167 2 (fun _ => rfl) h) ?_
      refine pj_X_of (fun r h => pj_T_gr hI rfl rfl rfl h) ?_
      refine pj_X_of (fun r h => pj_R_to (G, 171, [(0, .ref 27), (1, .ref 33), (2, .int v2), (3, .int v3)], [.int (Int32.ofInt 0), .ref 30], 0, 0) 171 2 (fun _ => rfl) h) ?_
      refine pj_X_of (fun r h => pj_T_il hI rfl rfl (by omega) (by omega) h) ?_
      show pj_X _ _ G 172 [(0, .ref 27), (1, .ref 33), (2, .int v2), (3, .int v3)] [.int (pj_ai G 30 (Int32.ofInt 0).toInt.toNat)] _
      obtain ⟨z3, hz3⟩ : ∃ z : Int32, z = pj_ai G 30 (Int32.ofInt 0).toInt.toNat := ⟨_, rfl⟩
      rw [← hz3]
      rw [pj_nm_e]
      have ez3 : (pj_ai G 30 (Int32.ofInt 0).toInt.toNat).toInt = z3.toInt := by rw [hz3]
      exact pj_X_rt rfl rfl ⟨_, rfl, hI, hK, pj_i32 _, rfl⟩
    | false =>
      rw [pj_cF]
      have ub2 := pj_u_geF b2
      refine pj_X_of (fun r h => pj_R_icF rfl b2 h) ?_
      refine pj_X_of (fun r h => pj_R_to (G, 35, [(0, .ref 27), (1, .ref 33), (2, .int v2), (3, .int v3)], [.ref 27], 0, 0) 35 2 (fun _ => rfl) h) ?_
      refine pj_X_gm hI rfl rfl (fun q4 => ?_) (fun q4 => ?_)
      · rw [show pj_rb G 27 0 28 = true from pj_rb_t q4, pj_cT]
        refine pj_X_of (fun r h => pj_R_to (G, 39, [(0, .ref 27), (1, .ref 33), (2, .int v2), (3, .int v3)], [.int v3, .ref 28], 0, 0) 39 2 (fun _ => rfl) h) ?_
        refine pj_X_of (fun r h => pj_T_il hI rfl rfl (by omega) (by omega) h) ?_
        show pj_X _ _ G 40 [(0, .ref 27), (1, .ref 33), (2, .int v2), (3, .int v3)] [.int (pj_ai G 28 v3.toInt.toNat)] _
        obtain ⟨z5, hz5⟩ : ∃ z : Int32, z = pj_ai G 28 v3.toInt.toNat := ⟨_, rfl⟩
        rw [← hz5]
        rw [pj_nm_e]
        have ez5 : (pj_ai G 28 v3.toInt.toNat).toInt = z5.toInt := by rw [hz5]
        have fz5_0 : (0 : Int) ≤ z5.toInt ∧ z5.toInt ≤ 3255 ∧ (z5.toInt ≤ 1006 ∨ 2000 ≤ z5.toInt) := by rw [hz5]; exact hI.2.2.1 28 (40, 0, 3255, 1006, 2000) rfl _ (by show _ < 40; omega)
        refine pj_X_of (fun r h => pj_R_to (G, 47, [(4, .int z5), (0, .ref 27), (1, .ref 33), (2, .int v2), (3, .int v3)], [.int ((Int16.ofInt 2000).toInt32), .int z5], 0, 0) 47 4 (fun _ => rfl) h) ?_
        cases b6 : pj_c1 .ge z5 ((Int16.ofInt 2000).toInt32) with
        | true =>
          rw [pj_cT]
          have ub6 := pj_u_geT b6
          refine pj_X_of (fun r h => pj_R_icT 89 rfl rfl b6 h) ?_
          refine pj_X_of (fun r h => pj_R_to (G, 94, [(4, .int z5), (0, .ref 27), (1, .ref 33), (2, .int v2), (3, .int v3)], [.int ((Int16.ofInt 2000).toInt32), .int z5], 0, 0) 94 3 (fun _ => rfl) h) ?_
          cases b7 : pj_c1 .ne z5 ((Int16.ofInt 2000).toInt32) with
          | true =>
            rw [pj_cT]
            have ub7 := pj_u_neT b7
            refine pj_X_of (fun r h => pj_R_icT 121 rfl rfl b7 h) ?_
            refine pj_X_of (fun r h => pj_R_to (G, 123, [(4, .int z5), (0, .ref 27), (1, .ref 33), (2, .int v2), (3, .int v3)], [.int (Int32.ofInt 1), .int v2], 0, 0) 123 3 (fun _ => rfl) h) ?_
            cases b8 : pj_c1 .le v2 (Int32.ofInt 1) with
            | true =>
              rw [pj_cT]
              have ub8 := pj_u_leT b8
              refine pj_X_of (fun r h => pj_R_icT 160 rfl rfl b8 h) ?_
              refine pj_X_of (fun r h => pj_R_to (G, 163, [(3, .int (v3 + Int32.ofInt 1)), (4, .int z5), (0, .ref 27), (1, .ref 33), (2, .int v2)], [], 0, 0) 163 2 (fun _ => rfl) h) ?_
              obtain ⟨z9, hz9⟩ : ∃ z : Int32, z = v3 + Int32.ofInt 1 := ⟨_, rfl⟩
              rw [← hz9]
              rw [pj_nm_e]
              have fz9_0 : z9.toInt = v3.toInt + (Int32.ofInt 1).toInt := by rw [hz9]; exact pj_addI (by have := pj_i32 v3; have := pj_i32 (Int32.ofInt 1); omega) (by have := pj_i32 v3; have := pj_i32 (Int32.ofInt 1); omega)
              refine pj_X_of (fun r h => pj_R_to (G, 26, [(3, .int z9), (4, .int z5), (0, .ref 27), (1, .ref 33), (2, .int v2)], [], 0, 0) 26 2 (fun _ => rfl) h) ?_
              exact pj_X_sub [(0, .ref 27), (1, .ref 33), (2, .int v2), (3, .int z9)] (show List.Nodup [0, 1, 2, 3] by decide) ⟨rfl, rfl, rfl, rfl, trivial⟩ (ih G hI hK v2 z9 ⟨by omega, by omega⟩ ⟨by omega, by omega⟩ (by omega))
            | false =>
              rw [pj_cF]
              have ub8 := pj_u_leF b8
              refine pj_X_of (fun r h => pj_R_icF rfl b8 h) ?_
              refine pj_X_of (fun r h => pj_R_to (G, 129, [(2, .int (v2 + Int32.ofInt (-1))), (4, .int z5), (0, .ref 27), (1, .ref 33), (3, .int v3)], [], 0, 0) 129 2 (fun _ => rfl) h) ?_
              obtain ⟨z10, hz10⟩ : ∃ z : Int32, z = v2 + Int32.ofInt (-1) := ⟨_, rfl⟩
              rw [← hz10]
              rw [pj_nm_e]
              have fz10_0 : z10.toInt = v2.toInt + (Int32.ofInt (-1)).toInt := by rw [hz10]; exact pj_addI (by have := pj_i32 v2; have := pj_i32 (Int32.ofInt (-1)); omega) (by have := pj_i32 v2; have := pj_i32 (Int32.ofInt (-1)); omega)
              refine pj_X_of (fun r h => pj_R_to (G, 130, [(2, .int z10), (4, .int z5), (0, .ref 27), (1, .ref 33), (3, .int v3)], [.ref 27], 0, 0) 130 2 (fun _ => rfl) h) ?_
              refine pj_X_of (fun r h => pj_T_gr hI rfl rfl rfl h) ?_
              refine pj_X_of (fun r h => pj_R_to (G, 136, [(2, .int z10), (4, .int z5), (0, .ref 27), (1, .ref 33), (3, .int v3)], [.int (z10 - (Int32.ofInt 1)), .ref 30], 0, 0) 136 4 (fun _ => rfl) h) ?_
              obtain ⟨z11, hz11⟩ : ∃ z : Int32, z = z10 - (Int32.ofInt 1) := ⟨_, rfl⟩
              rw [← hz11]
              rw [pj_nm_e]
              have fz11_0 : z11.toInt = z10.toInt - (Int32.ofInt 1).toInt := by rw [hz11]; exact pj_subI (by have := pj_i32 z10; have := pj_i32 (Int32.ofInt 1); omega) (by have := pj_i32 z10; have := pj_i32 (Int32.ofInt 1); omega)
              refine pj_X_of (fun r h => pj_R_to (G, 142, [(2, .int z10), (4, .int z5), (0, .ref 27), (1, .ref 33), (3, .int v3)], [.int (z5 - ((Int16.ofInt 3000).toInt32)), .int z11, .ref 30], 0, 0) 142 4 (fun _ => rfl) h) ?_
              obtain ⟨z12, hz12⟩ : ∃ z : Int32, z = z5 - ((Int16.ofInt 3000).toInt32) := ⟨_, rfl⟩
              rw [← hz12]
              rw [pj_nm_e]
              have fz12_0 : z12.toInt = z5.toInt - ((Int16.ofInt 3000).toInt32).toInt := by rw [hz12]; exact pj_subI (by have := pj_i32 z5; have := pj_i32 ((Int16.ofInt 3000).toInt32); omega) (by have := pj_i32 z5; have := pj_i32 ((Int16.ofInt 3000).toInt32); omega)
              refine pj_X_of (fun r h => pj_R_to (G, 143, [(2, .int z10), (4, .int z5), (0, .ref 27), (1, .ref 33), (3, .int v3)], [.ref 27, .int z12, .int z11, .ref 30], 0, 0) 143 2 (fun _ => rfl) h) ?_
              refine pj_X_of (fun r h => pj_T_gr hI rfl rfl rfl h) ?_
              refine pj_X_of (fun r h => pj_R_to (G, 149, [(2, .int z10), (4, .int z5), (0, .ref 27), (1, .ref 33), (3, .int v3)], [.int (z10 - (Int32.ofInt 1)), .ref 30, .int z12, .int z11, .ref 30], 0, 0) 149 4 (fun _ => rfl) h) ?_
              rw [← hz11]
              refine pj_X_of (fun r h => pj_T_il hI rfl rfl (by omega) (by omega) h) ?_
              show pj_X _ _ G 150 [(2, .int z10), (4, .int z5), (0, .ref 27), (1, .ref 33), (3, .int v3)] [.int (pj_ai G 30 z11.toInt.toNat), .int z12, .int z11, .ref 30] _
              obtain ⟨z13, hz13⟩ : ∃ z : Int32, z = pj_ai G 30 z11.toInt.toNat := ⟨_, rfl⟩
              rw [← hz13]
              rw [pj_nm_e]
              have ez13 : (pj_ai G 30 z11.toInt.toNat).toInt = z13.toInt := by rw [hz13]
              refine pj_X_of (fun r h => pj_R_to (G, 151, [(2, .int z10), (4, .int z5), (0, .ref 27), (1, .ref 33), (3, .int v3)], [.ref 27, .int z13, .int z12, .int z11, .ref 30], 0, 0) 151 2 (fun _ => rfl) h) ?_
              refine pj_X_of (fun r h => pj_T_gr hI rfl rfl rfl h) ?_
              refine pj_X_of (fun r h => pj_R_to (G, 155, [(2, .int z10), (4, .int z5), (0, .ref 27), (1, .ref 33), (3, .int v3)], [.int z10, .ref 30, .int z13, .int z12, .int z11, .ref 30], 0, 0) 155 2 (fun _ => rfl) h) ?_
              refine pj_X_of (fun r h => pj_T_il hI rfl rfl (by omega) (by omega) h) ?_
              show pj_X _ _ G 156 [(2, .int z10), (4, .int z5), (0, .ref 27), (1, .ref 33), (3, .int v3)] [.int (pj_ai G 30 z10.toInt.toNat), .int z13, .int z12, .int z11, .ref 30] _
              obtain ⟨z14, hz14⟩ : ∃ z : Int32, z = pj_ai G 30 z10.toInt.toNat := ⟨_, rfl⟩
              rw [← hz14]
              rw [pj_nm_e]
              have ez14 : (pj_ai G 30 z10.toInt.toNat).toInt = z14.toInt := by rw [hz14]
              refine pj_X_ca (vs := [.int z12, .int z13, .int z14]) rfl (fun _ => rfl) ⟨Nat.le_of_ble_eq_true rfl, Nat.le_of_ble_eq_true rfl, rfl⟩ ⟨rfl, rfl⟩ (pj_Y_up (by decide) (ct_66x G hI z12 z13 z14)) ?_
              rintro _ _ ⟨y15, rfl, rfl, ry15, fy15⟩
              rw [← fy15, pj_nm_e]
              show pj_X _ _ G 159 [(2, .int z10), (4, .int z5), (0, .ref 27), (1, .ref 33), (3, .int v3)] [.int y15, .int z11, .ref 30] _
              refine pj_X_of (fun r h => pj_T_is hI rfl rfl (by omega) (by omega) h) ?_
              show pj_X _ _ (pj_wa G 30 z11.toInt.toNat y15) 160 [(2, .int z10), (4, .int z5), (0, .ref 27), (1, .ref 33), (3, .int v3)] [] _
              obtain ⟨G16, hG16⟩ : ∃ H, H = pj_wa G 30 z11.toInt.toNat y15 := ⟨_, rfl⟩
              have iG16 : pj_Inv G16 := by rw [hG16]; exact pj_Inv_wa hI rfl (fun q hq => by cases hq) (fun n hn => by cases hn)
              have kG16 : pj_kpt kc_65x G0 G16 := by rw [hG16]; exact pj_kpt_a hK rfl
              rw [← hG16]
              rw [pj_nm_e]
              refine pj_X_of (fun r h => pj_R_to (G16, 163, [(3, .int (v3 + Int32.ofInt 1)), (2, .int z10), (4, .int z5), (0, .ref 27), (1, .ref 33)], [], 0, 0) 163 2 (fun _ => rfl) h) ?_
              obtain ⟨z17, hz17⟩ : ∃ z : Int32, z = v3 + Int32.ofInt 1 := ⟨_, rfl⟩
              rw [← hz17]
              rw [pj_nm_e]
              have fz17_0 : z17.toInt = v3.toInt + (Int32.ofInt 1).toInt := by rw [hz17]; exact pj_addI (by have := pj_i32 v3; have := pj_i32 (Int32.ofInt 1); omega) (by have := pj_i32 v3; have := pj_i32 (Int32.ofInt 1); omega)
              refine pj_X_of (fun r h => pj_R_to (G16, 26, [(3, .int z17), (2, .int z10), (4, .int z5), (0, .ref 27), (1, .ref 33)], [], 0, 0) 26 2 (fun _ => rfl) h) ?_
              exact pj_X_sub [(0, .ref 27), (1, .ref 33), (2, .int z10), (3, .int z17)] (show List.Nodup [0, 1, 2, 3] by decide) ⟨rfl, rfl, rfl, rfl, trivial⟩ (ih G16 iG16 kG16 z10 z17 ⟨by omega, by omega⟩ ⟨by omega, by omega⟩ (by omega))
          | false =>
            rw [pj_cF]
            have ub7 := pj_u_neF b7
            refine pj_X_of (fun r h => pj_R_icF rfl b7 h) ?_
            refine pj_X_of (fun r h => pj_R_to (G, 98, [(4, .int z5), (0, .ref 27), (1, .ref 33), (2, .int v2), (3, .int v3)], [.int v2], 0, 0) 98 2 (fun _ => rfl) h) ?_
            cases b18 : pj_c1 .le v2 0 with
            | true =>
              rw [pj_cT]
              have ub18 := pj_u0_leT b18
              refine pj_X_of (fun r h => pj_R_ifT 121 rfl rfl b18 h) ?_
              refine pj_X_of (fun r h => pj_R_to (G, 123, [(4, .int z5), (0, .ref 27), (1, .ref 33), (2, .int v2), (3, .int v3)], [.int (Int32.ofInt 1), .int v2], 0, 0) 123 3 (fun _ => rfl) h) ?_
              refine pj_X_of (fun r h => pj_R_icT 160 rfl rfl (pj_b_leT (by omega)) h) ?_
              refine pj_X_of (fun r h => pj_R_to (G, 163, [(3, .int (v3 + Int32.ofInt 1)), (4, .int z5), (0, .ref 27), (1, .ref 33), (2, .int v2)], [], 0, 0) 163 2 (fun _ => rfl) h) ?_
              obtain ⟨z19, hz19⟩ : ∃ z : Int32, z = v3 + Int32.ofInt 1 := ⟨_, rfl⟩
              rw [← hz19]
              rw [pj_nm_e]
              have fz19_0 : z19.toInt = v3.toInt + (Int32.ofInt 1).toInt := by rw [hz19]; exact pj_addI (by have := pj_i32 v3; have := pj_i32 (Int32.ofInt 1); omega) (by have := pj_i32 v3; have := pj_i32 (Int32.ofInt 1); omega)
              refine pj_X_of (fun r h => pj_R_to (G, 26, [(3, .int z19), (4, .int z5), (0, .ref 27), (1, .ref 33), (2, .int v2)], [], 0, 0) 26 2 (fun _ => rfl) h) ?_
              exact pj_X_sub [(0, .ref 27), (1, .ref 33), (2, .int v2), (3, .int z19)] (show List.Nodup [0, 1, 2, 3] by decide) ⟨rfl, rfl, rfl, rfl, trivial⟩ (ih G hI hK v2 z19 ⟨by omega, by omega⟩ ⟨by omega, by omega⟩ (by omega))
            | false =>
              rw [pj_cF]
              have ub18 := pj_u0_leF b18
              refine pj_X_of (fun r h => pj_R_ifF rfl b18 h) ?_
              refine pj_X_of (fun r h => pj_R_to (G, 102, [(4, .int z5), (0, .ref 27), (1, .ref 33), (2, .int v2), (3, .int v3)], [.ref 27], 0, 0) 102 2 (fun _ => rfl) h) ?_
              refine pj_X_of (fun r h => pj_T_gr hI rfl rfl rfl h) ?_
              refine pj_X_of (fun r h => pj_R_to (G, 108, [(4, .int z5), (0, .ref 27), (1, .ref 33), (2, .int v2), (3, .int v3)], [.int (v2 - (Int32.ofInt 1)), .ref 30], 0, 0) 108 4 (fun _ => rfl) h) ?_
              obtain ⟨z20, hz20⟩ : ∃ z : Int32, z = v2 - (Int32.ofInt 1) := ⟨_, rfl⟩
              rw [← hz20]
              rw [pj_nm_e]
              have fz20_0 : z20.toInt = v2.toInt - (Int32.ofInt 1).toInt := by rw [hz20]; exact pj_subI (by have := pj_i32 v2; have := pj_i32 (Int32.ofInt 1); omega) (by have := pj_i32 v2; have := pj_i32 (Int32.ofInt 1); omega)
              refine pj_X_of (fun r h => pj_R_to (G, 109, [(4, .int z5), (0, .ref 27), (1, .ref 33), (2, .int v2), (3, .int v3)], [.ref 27, .int z20, .ref 30], 0, 0) 109 2 (fun _ => rfl) h) ?_
              refine pj_X_of (fun r h => pj_T_gr hI rfl rfl rfl h) ?_
              refine pj_X_of (fun r h => pj_R_to (G, 115, [(4, .int z5), (0, .ref 27), (1, .ref 33), (2, .int v2), (3, .int v3)], [.int (v2 - (Int32.ofInt 1)), .ref 30, .int z20, .ref 30], 0, 0) 115 4 (fun _ => rfl) h) ?_
              rw [← hz20]
              refine pj_X_of (fun r h => pj_T_il hI rfl rfl (by omega) (by omega) h) ?_
              show pj_X _ _ G 116 [(4, .int z5), (0, .ref 27), (1, .ref 33), (2, .int v2), (3, .int v3)] [.int (pj_ai G 30 z20.toInt.toNat), .int z20, .ref 30] _
              obtain ⟨z21, hz21⟩ : ∃ z : Int32, z = pj_ai G 30 z20.toInt.toNat := ⟨_, rfl⟩
              rw [← hz21]
              rw [pj_nm_e]
              have ez21 : (pj_ai G 30 z20.toInt.toNat).toInt = z21.toInt := by rw [hz21]
              refine pj_X_of (fun r h => pj_R_to (G, 117, [(4, .int z5), (0, .ref 27), (1, .ref 33), (2, .int v2), (3, .int v3)], [.int (-z21), .int z20, .ref 30], 0, 0) 117 2 (fun _ => rfl) h) ?_
              obtain ⟨z22, hz22⟩ : ∃ z : Int32, z = -z21 := ⟨_, rfl⟩
              rw [← hz22]
              rw [pj_nm_e]
              refine pj_X_of (fun r h => pj_T_is hI rfl rfl (by omega) (by omega) h) ?_
              show pj_X _ _ (pj_wa G 30 z20.toInt.toNat z22) 118 [(4, .int z5), (0, .ref 27), (1, .ref 33), (2, .int v2), (3, .int v3)] [] _
              obtain ⟨G23, hG23⟩ : ∃ H, H = pj_wa G 30 z20.toInt.toNat z22 := ⟨_, rfl⟩
              have iG23 : pj_Inv G23 := by rw [hG23]; exact pj_Inv_wa hI rfl (fun q hq => by cases hq) (fun n hn => by cases hn)
              have kG23 : pj_kpt kc_65x G0 G23 := by rw [hG23]; exact pj_kpt_a hK rfl
              rw [← hG23]
              rw [pj_nm_e]
              refine pj_X_of (fun r h => pj_R_to (G23, 163, [(3, .int (v3 + Int32.ofInt 1)), (4, .int z5), (0, .ref 27), (1, .ref 33), (2, .int v2)], [], 0, 0) 163 3 (fun _ => rfl) h) ?_
              obtain ⟨z24, hz24⟩ : ∃ z : Int32, z = v3 + Int32.ofInt 1 := ⟨_, rfl⟩
              rw [← hz24]
              rw [pj_nm_e]
              have fz24_0 : z24.toInt = v3.toInt + (Int32.ofInt 1).toInt := by rw [hz24]; exact pj_addI (by have := pj_i32 v3; have := pj_i32 (Int32.ofInt 1); omega) (by have := pj_i32 v3; have := pj_i32 (Int32.ofInt 1); omega)
              refine pj_X_of (fun r h => pj_R_to (G23, 26, [(3, .int z24), (4, .int z5), (0, .ref 27), (1, .ref 33), (2, .int v2)], [], 0, 0) 26 2 (fun _ => rfl) h) ?_
              exact pj_X_sub [(0, .ref 27), (1, .ref 33), (2, .int v2), (3, .int z24)] (show List.Nodup [0, 1, 2, 3] by decide) ⟨rfl, rfl, rfl, rfl, trivial⟩ (ih G23 iG23 kG23 v2 z24 ⟨by omega, by omega⟩ ⟨by omega, by omega⟩ (by omega))
        | false =>
          rw [pj_cF]
          have ub6 := pj_u_geF b6
          refine pj_X_of (fun r h => pj_R_icF rfl b6 h) ?_
          refine pj_X_of (fun r h => pj_R_to (G, 53, [(4, .int z5), (0, .ref 27), (1, .ref 33), (2, .int v2), (3, .int v3)], [.int ((Int8.ofInt 40).toInt32), .int v2], 0, 0) 53 3 (fun _ => rfl) h) ?_
          cases b25 : pj_c1 .ge v2 ((Int8.ofInt 40).toInt32) with
          | true =>
            rw [pj_cT]
            have ub25 := pj_u_geT b25
            refine pj_X_of (fun r h => pj_R_icT 89 rfl rfl b25 h) ?_
            refine pj_X_of (fun r h => pj_R_to (G, 94, [(4, .int z5), (0, .ref 27), (1, .ref 33), (2, .int v2), (3, .int v3)], [.int ((Int16.ofInt 2000).toInt32), .int z5], 0, 0) 94 3 (fun _ => rfl) h) ?_
            refine pj_X_of (fun r h => pj_R_icT 121 rfl rfl (pj_b_neT (by omega)) h) ?_
            refine pj_X_of (fun r h => pj_R_to (G, 123, [(4, .int z5), (0, .ref 27), (1, .ref 33), (2, .int v2), (3, .int v3)], [.int (Int32.ofInt 1), .int v2], 0, 0) 123 3 (fun _ => rfl) h) ?_
            refine pj_X_of (fun r h => pj_R_icF rfl (pj_b_leF (by omega)) h) ?_
            refine pj_X_of (fun r h => pj_R_to (G, 129, [(2, .int (v2 + Int32.ofInt (-1))), (4, .int z5), (0, .ref 27), (1, .ref 33), (3, .int v3)], [], 0, 0) 129 2 (fun _ => rfl) h) ?_
            obtain ⟨z26, hz26⟩ : ∃ z : Int32, z = v2 + Int32.ofInt (-1) := ⟨_, rfl⟩
            rw [← hz26]
            rw [pj_nm_e]
            have fz26_0 : z26.toInt = v2.toInt + (Int32.ofInt (-1)).toInt := by rw [hz26]; exact pj_addI (by have := pj_i32 v2; have := pj_i32 (Int32.ofInt (-1)); omega) (by have := pj_i32 v2; have := pj_i32 (Int32.ofInt (-1)); omega)
            refine pj_X_of (fun r h => pj_R_to (G, 130, [(2, .int z26), (4, .int z5), (0, .ref 27), (1, .ref 33), (3, .int v3)], [.ref 27], 0, 0) 130 2 (fun _ => rfl) h) ?_
            refine pj_X_of (fun r h => pj_T_gr hI rfl rfl rfl h) ?_
            refine pj_X_of (fun r h => pj_R_to (G, 136, [(2, .int z26), (4, .int z5), (0, .ref 27), (1, .ref 33), (3, .int v3)], [.int (z26 - (Int32.ofInt 1)), .ref 30], 0, 0) 136 4 (fun _ => rfl) h) ?_
            obtain ⟨z27, hz27⟩ : ∃ z : Int32, z = z26 - (Int32.ofInt 1) := ⟨_, rfl⟩
            rw [← hz27]
            rw [pj_nm_e]
            have fz27_0 : z27.toInt = z26.toInt - (Int32.ofInt 1).toInt := by rw [hz27]; exact pj_subI (by have := pj_i32 z26; have := pj_i32 (Int32.ofInt 1); omega) (by have := pj_i32 z26; have := pj_i32 (Int32.ofInt 1); omega)
            refine pj_X_of (fun r h => pj_R_to (G, 142, [(2, .int z26), (4, .int z5), (0, .ref 27), (1, .ref 33), (3, .int v3)], [.int (z5 - ((Int16.ofInt 3000).toInt32)), .int z27, .ref 30], 0, 0) 142 4 (fun _ => rfl) h) ?_
            obtain ⟨z28, hz28⟩ : ∃ z : Int32, z = z5 - ((Int16.ofInt 3000).toInt32) := ⟨_, rfl⟩
            rw [← hz28]
            rw [pj_nm_e]
            have fz28_0 : z28.toInt = z5.toInt - ((Int16.ofInt 3000).toInt32).toInt := by rw [hz28]; exact pj_subI (by have := pj_i32 z5; have := pj_i32 ((Int16.ofInt 3000).toInt32); omega) (by have := pj_i32 z5; have := pj_i32 ((Int16.ofInt 3000).toInt32); omega)
            refine pj_X_of (fun r h => pj_R_to (G, 143, [(2, .int z26), (4, .int z5), (0, .ref 27), (1, .ref 33), (3, .int v3)], [.ref 27, .int z28, .int z27, .ref 30], 0, 0) 143 2 (fun _ => rfl) h) ?_
            refine pj_X_of (fun r h => pj_T_gr hI rfl rfl rfl h) ?_
            refine pj_X_of (fun r h => pj_R_to (G, 149, [(2, .int z26), (4, .int z5), (0, .ref 27), (1, .ref 33), (3, .int v3)], [.int (z26 - (Int32.ofInt 1)), .ref 30, .int z28, .int z27, .ref 30], 0, 0) 149 4 (fun _ => rfl) h) ?_
            rw [← hz27]
            refine pj_X_of (fun r h => pj_T_il hI rfl rfl (by omega) (by omega) h) ?_
            show pj_X _ _ G 150 [(2, .int z26), (4, .int z5), (0, .ref 27), (1, .ref 33), (3, .int v3)] [.int (pj_ai G 30 z27.toInt.toNat), .int z28, .int z27, .ref 30] _
            obtain ⟨z29, hz29⟩ : ∃ z : Int32, z = pj_ai G 30 z27.toInt.toNat := ⟨_, rfl⟩
            rw [← hz29]
            rw [pj_nm_e]
            have ez29 : (pj_ai G 30 z27.toInt.toNat).toInt = z29.toInt := by rw [hz29]
            refine pj_X_of (fun r h => pj_R_to (G, 151, [(2, .int z26), (4, .int z5), (0, .ref 27), (1, .ref 33), (3, .int v3)], [.ref 27, .int z29, .int z28, .int z27, .ref 30], 0, 0) 151 2 (fun _ => rfl) h) ?_
            refine pj_X_of (fun r h => pj_T_gr hI rfl rfl rfl h) ?_
            refine pj_X_of (fun r h => pj_R_to (G, 155, [(2, .int z26), (4, .int z5), (0, .ref 27), (1, .ref 33), (3, .int v3)], [.int z26, .ref 30, .int z29, .int z28, .int z27, .ref 30], 0, 0) 155 2 (fun _ => rfl) h) ?_
            refine pj_X_of (fun r h => pj_T_il hI rfl rfl (by omega) (by omega) h) ?_
            show pj_X _ _ G 156 [(2, .int z26), (4, .int z5), (0, .ref 27), (1, .ref 33), (3, .int v3)] [.int (pj_ai G 30 z26.toInt.toNat), .int z29, .int z28, .int z27, .ref 30] _
            obtain ⟨z30, hz30⟩ : ∃ z : Int32, z = pj_ai G 30 z26.toInt.toNat := ⟨_, rfl⟩
            rw [← hz30]
            rw [pj_nm_e]
            have ez30 : (pj_ai G 30 z26.toInt.toNat).toInt = z30.toInt := by rw [hz30]
            refine pj_X_ca (vs := [.int z28, .int z29, .int z30]) rfl (fun _ => rfl) ⟨Nat.le_of_ble_eq_true rfl, Nat.le_of_ble_eq_true rfl, rfl⟩ ⟨rfl, rfl⟩ (pj_Y_up (by decide) (ct_66x G hI z28 z29 z30)) ?_
            rintro _ _ ⟨y31, rfl, rfl, ry31, fy31⟩
            rw [← fy31, pj_nm_e]
            show pj_X _ _ G 159 [(2, .int z26), (4, .int z5), (0, .ref 27), (1, .ref 33), (3, .int v3)] [.int y31, .int z27, .ref 30] _
            refine pj_X_of (fun r h => pj_T_is hI rfl rfl (by omega) (by omega) h) ?_
            show pj_X _ _ (pj_wa G 30 z27.toInt.toNat y31) 160 [(2, .int z26), (4, .int z5), (0, .ref 27), (1, .ref 33), (3, .int v3)] [] _
            obtain ⟨G32, hG32⟩ : ∃ H, H = pj_wa G 30 z27.toInt.toNat y31 := ⟨_, rfl⟩
            have iG32 : pj_Inv G32 := by rw [hG32]; exact pj_Inv_wa hI rfl (fun q hq => by cases hq) (fun n hn => by cases hn)
            have kG32 : pj_kpt kc_65x G0 G32 := by rw [hG32]; exact pj_kpt_a hK rfl
            rw [← hG32]
            rw [pj_nm_e]
            refine pj_X_of (fun r h => pj_R_to (G32, 163, [(3, .int (v3 + Int32.ofInt 1)), (2, .int z26), (4, .int z5), (0, .ref 27), (1, .ref 33)], [], 0, 0) 163 2 (fun _ => rfl) h) ?_
            obtain ⟨z33, hz33⟩ : ∃ z : Int32, z = v3 + Int32.ofInt 1 := ⟨_, rfl⟩
            rw [← hz33]
            rw [pj_nm_e]
            have fz33_0 : z33.toInt = v3.toInt + (Int32.ofInt 1).toInt := by rw [hz33]; exact pj_addI (by have := pj_i32 v3; have := pj_i32 (Int32.ofInt 1); omega) (by have := pj_i32 v3; have := pj_i32 (Int32.ofInt 1); omega)
            refine pj_X_of (fun r h => pj_R_to (G32, 26, [(3, .int z33), (2, .int z26), (4, .int z5), (0, .ref 27), (1, .ref 33)], [], 0, 0) 26 2 (fun _ => rfl) h) ?_
            exact pj_X_sub [(0, .ref 27), (1, .ref 33), (2, .int z26), (3, .int z33)] (show List.Nodup [0, 1, 2, 3] by decide) ⟨rfl, rfl, rfl, rfl, trivial⟩ (ih G32 iG32 kG32 z26 z33 ⟨by omega, by omega⟩ ⟨by omega, by omega⟩ (by omega))
          | false =>
            rw [pj_cF]
            have ub25 := pj_u_geF b25
            refine pj_X_of (fun r h => pj_R_icF rfl b25 h) ?_
            refine pj_X_of (fun r h => pj_R_to (G, 57, [(4, .int z5), (0, .ref 27), (1, .ref 33), (2, .int v2), (3, .int v3)], [.ref 27], 0, 0) 57 2 (fun _ => rfl) h) ?_
            refine pj_X_of (fun r h => pj_T_gr hI rfl rfl rfl h) ?_
            refine pj_X_of (fun r h => pj_R_to (G, 66, [(4, .int z5), (0, .ref 27), (1, .ref 33), (2, .int v2), (3, .int v3)], [.int ((Int16.ofInt 1000).toInt32), .int z5, .int v2, .ref 30], 0, 0) 66 4 (fun _ => rfl) h) ?_
            cases b34 : pj_c1 .ge z5 ((Int16.ofInt 1000).toInt32) with
            | true =>
              rw [pj_cT]
              have ub34 := pj_u_geT b34
              refine pj_X_of (fun r h => pj_R_icT 74 rfl rfl b34 h) ?_
              refine pj_X_of (fun r h => pj_R_to (G, 81, [(4, .int z5), (0, .ref 27), (1, .ref 33), (2, .int v2), (3, .int v3)], [.int (z5 - ((Int16.ofInt 1000).toInt32)), .ref 33, .int v2, .ref 30], 0, 0) 81 5 (fun _ => rfl) h) ?_
              obtain ⟨z35, hz35⟩ : ∃ z : Int32, z = z5 - ((Int16.ofInt 1000).toInt32) := ⟨_, rfl⟩
              rw [← hz35]
              rw [pj_nm_e]
              have fz35_0 : z35.toInt = z5.toInt - ((Int16.ofInt 1000).toInt32).toInt := by rw [hz35]; exact pj_subI (by have := pj_i32 z5; have := pj_i32 ((Int16.ofInt 1000).toInt32); omega) (by have := pj_i32 z5; have := pj_i32 ((Int16.ofInt 1000).toInt32); omega)
              refine pj_X_of (fun r h => pj_T_il hI rfl rfl (by omega) (by omega) h) ?_
              show pj_X _ _ G 82 [(4, .int z5), (0, .ref 27), (1, .ref 33), (2, .int v2), (3, .int v3)] [.int (pj_ai G 33 z35.toInt.toNat), .int v2, .ref 30] _
              obtain ⟨z36, hz36⟩ : ∃ z : Int32, z = pj_ai G 33 z35.toInt.toNat := ⟨_, rfl⟩
              rw [← hz36]
              rw [pj_nm_e]
              have ez36 : (pj_ai G 33 z35.toInt.toNat).toInt = z36.toInt := by rw [hz36]
              refine pj_X_of (fun r h => pj_T_is hI rfl rfl (by omega) (by omega) h) ?_
              show pj_X _ _ (pj_wa G 30 v2.toInt.toNat z36) 83 [(4, .int z5), (0, .ref 27), (1, .ref 33), (2, .int v2), (3, .int v3)] [] _
              obtain ⟨G37, hG37⟩ : ∃ H, H = pj_wa G 30 v2.toInt.toNat z36 := ⟨_, rfl⟩
              have iG37 : pj_Inv G37 := by rw [hG37]; exact pj_Inv_wa hI rfl (fun q hq => by cases hq) (fun n hn => by cases hn)
              have kG37 : pj_kpt kc_65x G0 G37 := by rw [hG37]; exact pj_kpt_a hK rfl
              rw [← hG37]
              rw [pj_nm_e]
              refine pj_X_of (fun r h => pj_R_to (G37, 86, [(2, .int (v2 + Int32.ofInt 1)), (4, .int z5), (0, .ref 27), (1, .ref 33), (3, .int v3)], [], 0, 0) 86 2 (fun _ => rfl) h) ?_
              obtain ⟨z38, hz38⟩ : ∃ z : Int32, z = v2 + Int32.ofInt 1 := ⟨_, rfl⟩
              rw [← hz38]
              rw [pj_nm_e]
              have fz38_0 : z38.toInt = v2.toInt + (Int32.ofInt 1).toInt := by rw [hz38]; exact pj_addI (by have := pj_i32 v2; have := pj_i32 (Int32.ofInt 1); omega) (by have := pj_i32 v2; have := pj_i32 (Int32.ofInt 1); omega)
              refine pj_X_of (fun r h => pj_R_to (G37, 163, [(3, .int (v3 + Int32.ofInt 1)), (2, .int z38), (4, .int z5), (0, .ref 27), (1, .ref 33)], [], 0, 0) 163 3 (fun _ => rfl) h) ?_
              obtain ⟨z39, hz39⟩ : ∃ z : Int32, z = v3 + Int32.ofInt 1 := ⟨_, rfl⟩
              rw [← hz39]
              rw [pj_nm_e]
              have fz39_0 : z39.toInt = v3.toInt + (Int32.ofInt 1).toInt := by rw [hz39]; exact pj_addI (by have := pj_i32 v3; have := pj_i32 (Int32.ofInt 1); omega) (by have := pj_i32 v3; have := pj_i32 (Int32.ofInt 1); omega)
              refine pj_X_of (fun r h => pj_R_to (G37, 26, [(3, .int z39), (2, .int z38), (4, .int z5), (0, .ref 27), (1, .ref 33)], [], 0, 0) 26 2 (fun _ => rfl) h) ?_
              exact pj_X_sub [(0, .ref 27), (1, .ref 33), (2, .int z38), (3, .int z39)] (show List.Nodup [0, 1, 2, 3] by decide) ⟨rfl, rfl, rfl, rfl, trivial⟩ (ih G37 iG37 kG37 z38 z39 ⟨by omega, by omega⟩ ⟨by omega, by omega⟩ (by omega))
            | false =>
              rw [pj_cF]
              have ub34 := pj_u_geF b34
              refine pj_X_of (fun r h => pj_R_icF rfl b34 h) ?_
              refine pj_X_of (fun r h => pj_R_to (G, 82, [(4, .int z5), (0, .ref 27), (1, .ref 33), (2, .int v2), (3, .int v3)], [.int z5, .int v2, .ref 30], 0, 0) 82 3 (fun _ => rfl) h) ?_
              refine pj_X_of (fun r h => pj_T_is hI rfl rfl (by omega) (by omega) h) ?_
              show pj_X _ _ (pj_wa G 30 v2.toInt.toNat z5) 83 [(4, .int z5), (0, .ref 27), (1, .ref 33), (2, .int v2), (3, .int v3)] [] _
              obtain ⟨G40, hG40⟩ : ∃ H, H = pj_wa G 30 v2.toInt.toNat z5 := ⟨_, rfl⟩
              have iG40 : pj_Inv G40 := by rw [hG40]; exact pj_Inv_wa hI rfl (fun q hq => by cases hq) (fun n hn => by cases hn)
              have kG40 : pj_kpt kc_65x G0 G40 := by rw [hG40]; exact pj_kpt_a hK rfl
              rw [← hG40]
              rw [pj_nm_e]
              refine pj_X_of (fun r h => pj_R_to (G40, 86, [(2, .int (v2 + Int32.ofInt 1)), (4, .int z5), (0, .ref 27), (1, .ref 33), (3, .int v3)], [], 0, 0) 86 2 (fun _ => rfl) h) ?_
              obtain ⟨z41, hz41⟩ : ∃ z : Int32, z = v2 + Int32.ofInt 1 := ⟨_, rfl⟩
              rw [← hz41]
              rw [pj_nm_e]
              have fz41_0 : z41.toInt = v2.toInt + (Int32.ofInt 1).toInt := by rw [hz41]; exact pj_addI (by have := pj_i32 v2; have := pj_i32 (Int32.ofInt 1); omega) (by have := pj_i32 v2; have := pj_i32 (Int32.ofInt 1); omega)
              refine pj_X_of (fun r h => pj_R_to (G40, 163, [(3, .int (v3 + Int32.ofInt 1)), (2, .int z41), (4, .int z5), (0, .ref 27), (1, .ref 33)], [], 0, 0) 163 3 (fun _ => rfl) h) ?_
              obtain ⟨z42, hz42⟩ : ∃ z : Int32, z = v3 + Int32.ofInt 1 := ⟨_, rfl⟩
              rw [← hz42]
              rw [pj_nm_e]
              have fz42_0 : z42.toInt = v3.toInt + (Int32.ofInt 1).toInt := by rw [hz42]; exact pj_addI (by have := pj_i32 v3; have := pj_i32 (Int32.ofInt 1); omega) (by have := pj_i32 v3; have := pj_i32 (Int32.ofInt 1); omega)
              refine pj_X_of (fun r h => pj_R_to (G40, 26, [(3, .int z42), (2, .int z41), (4, .int z5), (0, .ref 27), (1, .ref 33)], [], 0, 0) 26 2 (fun _ => rfl) h) ?_
              exact pj_X_sub [(0, .ref 27), (1, .ref 33), (2, .int z41), (3, .int z42)] (show List.Nodup [0, 1, 2, 3] by decide) ⟨rfl, rfl, rfl, rfl, trivial⟩ (ih G40 iG40 kG40 z41 z42 ⟨by omega, by omega⟩ ⟨by omega, by omega⟩ (by omega))
      · rw [show pj_rb G 27 0 28 = false from pj_rb_f q4 rfl, pj_cF]
        refine pj_X_of (fun r h => pj_R_to (G, 39, [(0, .ref 27), (1, .ref 33), (2, .int v2), (3, .int v3)], [.int v3, .ref 29], 0, 0) 39 2 (fun _ => rfl) h) ?_
        refine pj_X_of (fun r h => pj_T_il hI rfl rfl (by omega) (by omega) h) ?_
        show pj_X _ _ G 40 [(0, .ref 27), (1, .ref 33), (2, .int v2), (3, .int v3)] [.int (pj_ai G 29 v3.toInt.toNat)] _
        obtain ⟨z43, hz43⟩ : ∃ z : Int32, z = pj_ai G 29 v3.toInt.toNat := ⟨_, rfl⟩
        rw [← hz43]
        rw [pj_nm_e]
        have ez43 : (pj_ai G 29 v3.toInt.toNat).toInt = z43.toInt := by rw [hz43]
        have fz43_0 : (0 : Int) ≤ z43.toInt ∧ z43.toInt ≤ 3255 ∧ (z43.toInt ≤ 1006 ∨ 2000 ≤ z43.toInt) := by rw [hz43]; exact hI.2.2.1 29 (40, 0, 3255, 1006, 2000) rfl _ (by show _ < 40; omega)
        refine pj_X_of (fun r h => pj_R_to (G, 47, [(4, .int z43), (0, .ref 27), (1, .ref 33), (2, .int v2), (3, .int v3)], [.int ((Int16.ofInt 2000).toInt32), .int z43], 0, 0) 47 4 (fun _ => rfl) h) ?_
        cases b44 : pj_c1 .ge z43 ((Int16.ofInt 2000).toInt32) with
        | true =>
          rw [pj_cT]
          have ub44 := pj_u_geT b44
          refine pj_X_of (fun r h => pj_R_icT 89 rfl rfl b44 h) ?_
          refine pj_X_of (fun r h => pj_R_to (G, 94, [(4, .int z43), (0, .ref 27), (1, .ref 33), (2, .int v2), (3, .int v3)], [.int ((Int16.ofInt 2000).toInt32), .int z43], 0, 0) 94 3 (fun _ => rfl) h) ?_
          cases b45 : pj_c1 .ne z43 ((Int16.ofInt 2000).toInt32) with
          | true =>
            rw [pj_cT]
            have ub45 := pj_u_neT b45
            refine pj_X_of (fun r h => pj_R_icT 121 rfl rfl b45 h) ?_
            refine pj_X_of (fun r h => pj_R_to (G, 123, [(4, .int z43), (0, .ref 27), (1, .ref 33), (2, .int v2), (3, .int v3)], [.int (Int32.ofInt 1), .int v2], 0, 0) 123 3 (fun _ => rfl) h) ?_
            cases b46 : pj_c1 .le v2 (Int32.ofInt 1) with
            | true =>
              rw [pj_cT]
              have ub46 := pj_u_leT b46
              refine pj_X_of (fun r h => pj_R_icT 160 rfl rfl b46 h) ?_
              refine pj_X_of (fun r h => pj_R_to (G, 163, [(3, .int (v3 + Int32.ofInt 1)), (4, .int z43), (0, .ref 27), (1, .ref 33), (2, .int v2)], [], 0, 0) 163 2 (fun _ => rfl) h) ?_
              obtain ⟨z47, hz47⟩ : ∃ z : Int32, z = v3 + Int32.ofInt 1 := ⟨_, rfl⟩
              rw [← hz47]
              rw [pj_nm_e]
              have fz47_0 : z47.toInt = v3.toInt + (Int32.ofInt 1).toInt := by rw [hz47]; exact pj_addI (by have := pj_i32 v3; have := pj_i32 (Int32.ofInt 1); omega) (by have := pj_i32 v3; have := pj_i32 (Int32.ofInt 1); omega)
              refine pj_X_of (fun r h => pj_R_to (G, 26, [(3, .int z47), (4, .int z43), (0, .ref 27), (1, .ref 33), (2, .int v2)], [], 0, 0) 26 2 (fun _ => rfl) h) ?_
              exact pj_X_sub [(0, .ref 27), (1, .ref 33), (2, .int v2), (3, .int z47)] (show List.Nodup [0, 1, 2, 3] by decide) ⟨rfl, rfl, rfl, rfl, trivial⟩ (ih G hI hK v2 z47 ⟨by omega, by omega⟩ ⟨by omega, by omega⟩ (by omega))
            | false =>
              rw [pj_cF]
              have ub46 := pj_u_leF b46
              refine pj_X_of (fun r h => pj_R_icF rfl b46 h) ?_
              refine pj_X_of (fun r h => pj_R_to (G, 129, [(2, .int (v2 + Int32.ofInt (-1))), (4, .int z43), (0, .ref 27), (1, .ref 33), (3, .int v3)], [], 0, 0) 129 2 (fun _ => rfl) h) ?_
              obtain ⟨z48, hz48⟩ : ∃ z : Int32, z = v2 + Int32.ofInt (-1) := ⟨_, rfl⟩
              rw [← hz48]
              rw [pj_nm_e]
              have fz48_0 : z48.toInt = v2.toInt + (Int32.ofInt (-1)).toInt := by rw [hz48]; exact pj_addI (by have := pj_i32 v2; have := pj_i32 (Int32.ofInt (-1)); omega) (by have := pj_i32 v2; have := pj_i32 (Int32.ofInt (-1)); omega)
              refine pj_X_of (fun r h => pj_R_to (G, 130, [(2, .int z48), (4, .int z43), (0, .ref 27), (1, .ref 33), (3, .int v3)], [.ref 27], 0, 0) 130 2 (fun _ => rfl) h) ?_
              refine pj_X_of (fun r h => pj_T_gr hI rfl rfl rfl h) ?_
              refine pj_X_of (fun r h => pj_R_to (G, 136, [(2, .int z48), (4, .int z43), (0, .ref 27), (1, .ref 33), (3, .int v3)], [.int (z48 - (Int32.ofInt 1)), .ref 30], 0, 0) 136 4 (fun _ => rfl) h) ?_
              obtain ⟨z49, hz49⟩ : ∃ z : Int32, z = z48 - (Int32.ofInt 1) := ⟨_, rfl⟩
              rw [← hz49]
              rw [pj_nm_e]
              have fz49_0 : z49.toInt = z48.toInt - (Int32.ofInt 1).toInt := by rw [hz49]; exact pj_subI (by have := pj_i32 z48; have := pj_i32 (Int32.ofInt 1); omega) (by have := pj_i32 z48; have := pj_i32 (Int32.ofInt 1); omega)
              refine pj_X_of (fun r h => pj_R_to (G, 142, [(2, .int z48), (4, .int z43), (0, .ref 27), (1, .ref 33), (3, .int v3)], [.int (z43 - ((Int16.ofInt 3000).toInt32)), .int z49, .ref 30], 0, 0) 142 4 (fun _ => rfl) h) ?_
              obtain ⟨z50, hz50⟩ : ∃ z : Int32, z = z43 - ((Int16.ofInt 3000).toInt32) := ⟨_, rfl⟩
              rw [← hz50]
              rw [pj_nm_e]
              have fz50_0 : z50.toInt = z43.toInt - ((Int16.ofInt 3000).toInt32).toInt := by rw [hz50]; exact pj_subI (by have := pj_i32 z43; have := pj_i32 ((Int16.ofInt 3000).toInt32); omega) (by have := pj_i32 z43; have := pj_i32 ((Int16.ofInt 3000).toInt32); omega)
              refine pj_X_of (fun r h => pj_R_to (G, 143, [(2, .int z48), (4, .int z43), (0, .ref 27), (1, .ref 33), (3, .int v3)], [.ref 27, .int z50, .int z49, .ref 30], 0, 0) 143 2 (fun _ => rfl) h) ?_
              refine pj_X_of (fun r h => pj_T_gr hI rfl rfl rfl h) ?_
              refine pj_X_of (fun r h => pj_R_to (G, 149, [(2, .int z48), (4, .int z43), (0, .ref 27), (1, .ref 33), (3, .int v3)], [.int (z48 - (Int32.ofInt 1)), .ref 30, .int z50, .int z49, .ref 30], 0, 0) 149 4 (fun _ => rfl) h) ?_
              rw [← hz49]
              refine pj_X_of (fun r h => pj_T_il hI rfl rfl (by omega) (by omega) h) ?_
              show pj_X _ _ G 150 [(2, .int z48), (4, .int z43), (0, .ref 27), (1, .ref 33), (3, .int v3)] [.int (pj_ai G 30 z49.toInt.toNat), .int z50, .int z49, .ref 30] _
              obtain ⟨z51, hz51⟩ : ∃ z : Int32, z = pj_ai G 30 z49.toInt.toNat := ⟨_, rfl⟩
              rw [← hz51]
              rw [pj_nm_e]
              have ez51 : (pj_ai G 30 z49.toInt.toNat).toInt = z51.toInt := by rw [hz51]
              refine pj_X_of (fun r h => pj_R_to (G, 151, [(2, .int z48), (4, .int z43), (0, .ref 27), (1, .ref 33), (3, .int v3)], [.ref 27, .int z51, .int z50, .int z49, .ref 30], 0, 0) 151 2 (fun _ => rfl) h) ?_
              refine pj_X_of (fun r h => pj_T_gr hI rfl rfl rfl h) ?_
              refine pj_X_of (fun r h => pj_R_to (G, 155, [(2, .int z48), (4, .int z43), (0, .ref 27), (1, .ref 33), (3, .int v3)], [.int z48, .ref 30, .int z51, .int z50, .int z49, .ref 30], 0, 0) 155 2 (fun _ => rfl) h) ?_
              refine pj_X_of (fun r h => pj_T_il hI rfl rfl (by omega) (by omega) h) ?_
              show pj_X _ _ G 156 [(2, .int z48), (4, .int z43), (0, .ref 27), (1, .ref 33), (3, .int v3)] [.int (pj_ai G 30 z48.toInt.toNat), .int z51, .int z50, .int z49, .ref 30] _
              obtain ⟨z52, hz52⟩ : ∃ z : Int32, z = pj_ai G 30 z48.toInt.toNat := ⟨_, rfl⟩
              rw [← hz52]
              rw [pj_nm_e]
              have ez52 : (pj_ai G 30 z48.toInt.toNat).toInt = z52.toInt := by rw [hz52]
              refine pj_X_ca (vs := [.int z50, .int z51, .int z52]) rfl (fun _ => rfl) ⟨Nat.le_of_ble_eq_true rfl, Nat.le_of_ble_eq_true rfl, rfl⟩ ⟨rfl, rfl⟩ (pj_Y_up (by decide) (ct_66x G hI z50 z51 z52)) ?_
              rintro _ _ ⟨y53, rfl, rfl, ry53, fy53⟩
              rw [← fy53, pj_nm_e]
              show pj_X _ _ G 159 [(2, .int z48), (4, .int z43), (0, .ref 27), (1, .ref 33), (3, .int v3)] [.int y53, .int z49, .ref 30] _
              refine pj_X_of (fun r h => pj_T_is hI rfl rfl (by omega) (by omega) h) ?_
              show pj_X _ _ (pj_wa G 30 z49.toInt.toNat y53) 160 [(2, .int z48), (4, .int z43), (0, .ref 27), (1, .ref 33), (3, .int v3)] [] _
              obtain ⟨G54, hG54⟩ : ∃ H, H = pj_wa G 30 z49.toInt.toNat y53 := ⟨_, rfl⟩
              have iG54 : pj_Inv G54 := by rw [hG54]; exact pj_Inv_wa hI rfl (fun q hq => by cases hq) (fun n hn => by cases hn)
              have kG54 : pj_kpt kc_65x G0 G54 := by rw [hG54]; exact pj_kpt_a hK rfl
              rw [← hG54]
              rw [pj_nm_e]
              refine pj_X_of (fun r h => pj_R_to (G54, 163, [(3, .int (v3 + Int32.ofInt 1)), (2, .int z48), (4, .int z43), (0, .ref 27), (1, .ref 33)], [], 0, 0) 163 2 (fun _ => rfl) h) ?_
              obtain ⟨z55, hz55⟩ : ∃ z : Int32, z = v3 + Int32.ofInt 1 := ⟨_, rfl⟩
              rw [← hz55]
              rw [pj_nm_e]
              have fz55_0 : z55.toInt = v3.toInt + (Int32.ofInt 1).toInt := by rw [hz55]; exact pj_addI (by have := pj_i32 v3; have := pj_i32 (Int32.ofInt 1); omega) (by have := pj_i32 v3; have := pj_i32 (Int32.ofInt 1); omega)
              refine pj_X_of (fun r h => pj_R_to (G54, 26, [(3, .int z55), (2, .int z48), (4, .int z43), (0, .ref 27), (1, .ref 33)], [], 0, 0) 26 2 (fun _ => rfl) h) ?_
              exact pj_X_sub [(0, .ref 27), (1, .ref 33), (2, .int z48), (3, .int z55)] (show List.Nodup [0, 1, 2, 3] by decide) ⟨rfl, rfl, rfl, rfl, trivial⟩ (ih G54 iG54 kG54 z48 z55 ⟨by omega, by omega⟩ ⟨by omega, by omega⟩ (by omega))
          | false =>
            rw [pj_cF]
            have ub45 := pj_u_neF b45
            refine pj_X_of (fun r h => pj_R_icF rfl b45 h) ?_
            refine pj_X_of (fun r h => pj_R_to (G, 98, [(4, .int z43), (0, .ref 27), (1, .ref 33), (2, .int v2), (3, .int v3)], [.int v2], 0, 0) 98 2 (fun _ => rfl) h) ?_
            cases b56 : pj_c1 .le v2 0 with
            | true =>
              rw [pj_cT]
              have ub56 := pj_u0_leT b56
              refine pj_X_of (fun r h => pj_R_ifT 121 rfl rfl b56 h) ?_
              refine pj_X_of (fun r h => pj_R_to (G, 123, [(4, .int z43), (0, .ref 27), (1, .ref 33), (2, .int v2), (3, .int v3)], [.int (Int32.ofInt 1), .int v2], 0, 0) 123 3 (fun _ => rfl) h) ?_
              refine pj_X_of (fun r h => pj_R_icT 160 rfl rfl (pj_b_leT (by omega)) h) ?_
              refine pj_X_of (fun r h => pj_R_to (G, 163, [(3, .int (v3 + Int32.ofInt 1)), (4, .int z43), (0, .ref 27), (1, .ref 33), (2, .int v2)], [], 0, 0) 163 2 (fun _ => rfl) h) ?_
              obtain ⟨z57, hz57⟩ : ∃ z : Int32, z = v3 + Int32.ofInt 1 := ⟨_, rfl⟩
              rw [← hz57]
              rw [pj_nm_e]
              have fz57_0 : z57.toInt = v3.toInt + (Int32.ofInt 1).toInt := by rw [hz57]; exact pj_addI (by have := pj_i32 v3; have := pj_i32 (Int32.ofInt 1); omega) (by have := pj_i32 v3; have := pj_i32 (Int32.ofInt 1); omega)
              refine pj_X_of (fun r h => pj_R_to (G, 26, [(3, .int z57), (4, .int z43), (0, .ref 27), (1, .ref 33), (2, .int v2)], [], 0, 0) 26 2 (fun _ => rfl) h) ?_
              exact pj_X_sub [(0, .ref 27), (1, .ref 33), (2, .int v2), (3, .int z57)] (show List.Nodup [0, 1, 2, 3] by decide) ⟨rfl, rfl, rfl, rfl, trivial⟩ (ih G hI hK v2 z57 ⟨by omega, by omega⟩ ⟨by omega, by omega⟩ (by omega))
            | false =>
              rw [pj_cF]
              have ub56 := pj_u0_leF b56
              refine pj_X_of (fun r h => pj_R_ifF rfl b56 h) ?_
              refine pj_X_of (fun r h => pj_R_to (G, 102, [(4, .int z43), (0, .ref 27), (1, .ref 33), (2, .int v2), (3, .int v3)], [.ref 27], 0, 0) 102 2 (fun _ => rfl) h) ?_
              refine pj_X_of (fun r h => pj_T_gr hI rfl rfl rfl h) ?_
              refine pj_X_of (fun r h => pj_R_to (G, 108, [(4, .int z43), (0, .ref 27), (1, .ref 33), (2, .int v2), (3, .int v3)], [.int (v2 - (Int32.ofInt 1)), .ref 30], 0, 0) 108 4 (fun _ => rfl) h) ?_
              obtain ⟨z58, hz58⟩ : ∃ z : Int32, z = v2 - (Int32.ofInt 1) := ⟨_, rfl⟩
              rw [← hz58]
              rw [pj_nm_e]
              have fz58_0 : z58.toInt = v2.toInt - (Int32.ofInt 1).toInt := by rw [hz58]; exact pj_subI (by have := pj_i32 v2; have := pj_i32 (Int32.ofInt 1); omega) (by have := pj_i32 v2; have := pj_i32 (Int32.ofInt 1); omega)
              refine pj_X_of (fun r h => pj_R_to (G, 109, [(4, .int z43), (0, .ref 27), (1, .ref 33), (2, .int v2), (3, .int v3)], [.ref 27, .int z58, .ref 30], 0, 0) 109 2 (fun _ => rfl) h) ?_
              refine pj_X_of (fun r h => pj_T_gr hI rfl rfl rfl h) ?_
              refine pj_X_of (fun r h => pj_R_to (G, 115, [(4, .int z43), (0, .ref 27), (1, .ref 33), (2, .int v2), (3, .int v3)], [.int (v2 - (Int32.ofInt 1)), .ref 30, .int z58, .ref 30], 0, 0) 115 4 (fun _ => rfl) h) ?_
              rw [← hz58]
              refine pj_X_of (fun r h => pj_T_il hI rfl rfl (by omega) (by omega) h) ?_
              show pj_X _ _ G 116 [(4, .int z43), (0, .ref 27), (1, .ref 33), (2, .int v2), (3, .int v3)] [.int (pj_ai G 30 z58.toInt.toNat), .int z58, .ref 30] _
              obtain ⟨z59, hz59⟩ : ∃ z : Int32, z = pj_ai G 30 z58.toInt.toNat := ⟨_, rfl⟩
              rw [← hz59]
              rw [pj_nm_e]
              have ez59 : (pj_ai G 30 z58.toInt.toNat).toInt = z59.toInt := by rw [hz59]
              refine pj_X_of (fun r h => pj_R_to (G, 117, [(4, .int z43), (0, .ref 27), (1, .ref 33), (2, .int v2), (3, .int v3)], [.int (-z59), .int z58, .ref 30], 0, 0) 117 2 (fun _ => rfl) h) ?_
              obtain ⟨z60, hz60⟩ : ∃ z : Int32, z = -z59 := ⟨_, rfl⟩
              rw [← hz60]
              rw [pj_nm_e]
              refine pj_X_of (fun r h => pj_T_is hI rfl rfl (by omega) (by omega) h) ?_
              show pj_X _ _ (pj_wa G 30 z58.toInt.toNat z60) 118 [(4, .int z43), (0, .ref 27), (1, .ref 33), (2, .int v2), (3, .int v3)] [] _
              obtain ⟨G61, hG61⟩ : ∃ H, H = pj_wa G 30 z58.toInt.toNat z60 := ⟨_, rfl⟩
              have iG61 : pj_Inv G61 := by rw [hG61]; exact pj_Inv_wa hI rfl (fun q hq => by cases hq) (fun n hn => by cases hn)
              have kG61 : pj_kpt kc_65x G0 G61 := by rw [hG61]; exact pj_kpt_a hK rfl
              rw [← hG61]
              rw [pj_nm_e]
              refine pj_X_of (fun r h => pj_R_to (G61, 163, [(3, .int (v3 + Int32.ofInt 1)), (4, .int z43), (0, .ref 27), (1, .ref 33), (2, .int v2)], [], 0, 0) 163 3 (fun _ => rfl) h) ?_
              obtain ⟨z62, hz62⟩ : ∃ z : Int32, z = v3 + Int32.ofInt 1 := ⟨_, rfl⟩
              rw [← hz62]
              rw [pj_nm_e]
              have fz62_0 : z62.toInt = v3.toInt + (Int32.ofInt 1).toInt := by rw [hz62]; exact pj_addI (by have := pj_i32 v3; have := pj_i32 (Int32.ofInt 1); omega) (by have := pj_i32 v3; have := pj_i32 (Int32.ofInt 1); omega)
              refine pj_X_of (fun r h => pj_R_to (G61, 26, [(3, .int z62), (4, .int z43), (0, .ref 27), (1, .ref 33), (2, .int v2)], [], 0, 0) 26 2 (fun _ => rfl) h) ?_
              exact pj_X_sub [(0, .ref 27), (1, .ref 33), (2, .int v2), (3, .int z62)] (show List.Nodup [0, 1, 2, 3] by decide) ⟨rfl, rfl, rfl, rfl, trivial⟩ (ih G61 iG61 kG61 v2 z62 ⟨by omega, by omega⟩ ⟨by omega, by omega⟩ (by omega))
        | false =>
          rw [pj_cF]
          have ub44 := pj_u_geF b44
          refine pj_X_of (fun r h => pj_R_icF rfl b44 h) ?_
          refine pj_X_of (fun r h => pj_R_to (G, 53, [(4, .int z43), (0, .ref 27), (1, .ref 33), (2, .int v2), (3, .int v3)], [.int ((Int8.ofInt 40).toInt32), .int v2], 0, 0) 53 3 (fun _ => rfl) h) ?_
          cases b63 : pj_c1 .ge v2 ((Int8.ofInt 40).toInt32) with
          | true =>
            rw [pj_cT]
            have ub63 := pj_u_geT b63
            refine pj_X_of (fun r h => pj_R_icT 89 rfl rfl b63 h) ?_
            refine pj_X_of (fun r h => pj_R_to (G, 94, [(4, .int z43), (0, .ref 27), (1, .ref 33), (2, .int v2), (3, .int v3)], [.int ((Int16.ofInt 2000).toInt32), .int z43], 0, 0) 94 3 (fun _ => rfl) h) ?_
            refine pj_X_of (fun r h => pj_R_icT 121 rfl rfl (pj_b_neT (by omega)) h) ?_
            refine pj_X_of (fun r h => pj_R_to (G, 123, [(4, .int z43), (0, .ref 27), (1, .ref 33), (2, .int v2), (3, .int v3)], [.int (Int32.ofInt 1), .int v2], 0, 0) 123 3 (fun _ => rfl) h) ?_
            refine pj_X_of (fun r h => pj_R_icF rfl (pj_b_leF (by omega)) h) ?_
            refine pj_X_of (fun r h => pj_R_to (G, 129, [(2, .int (v2 + Int32.ofInt (-1))), (4, .int z43), (0, .ref 27), (1, .ref 33), (3, .int v3)], [], 0, 0) 129 2 (fun _ => rfl) h) ?_
            obtain ⟨z64, hz64⟩ : ∃ z : Int32, z = v2 + Int32.ofInt (-1) := ⟨_, rfl⟩
            rw [← hz64]
            rw [pj_nm_e]
            have fz64_0 : z64.toInt = v2.toInt + (Int32.ofInt (-1)).toInt := by rw [hz64]; exact pj_addI (by have := pj_i32 v2; have := pj_i32 (Int32.ofInt (-1)); omega) (by have := pj_i32 v2; have := pj_i32 (Int32.ofInt (-1)); omega)
            refine pj_X_of (fun r h => pj_R_to (G, 130, [(2, .int z64), (4, .int z43), (0, .ref 27), (1, .ref 33), (3, .int v3)], [.ref 27], 0, 0) 130 2 (fun _ => rfl) h) ?_
            refine pj_X_of (fun r h => pj_T_gr hI rfl rfl rfl h) ?_
            refine pj_X_of (fun r h => pj_R_to (G, 136, [(2, .int z64), (4, .int z43), (0, .ref 27), (1, .ref 33), (3, .int v3)], [.int (z64 - (Int32.ofInt 1)), .ref 30], 0, 0) 136 4 (fun _ => rfl) h) ?_
            obtain ⟨z65, hz65⟩ : ∃ z : Int32, z = z64 - (Int32.ofInt 1) := ⟨_, rfl⟩
            rw [← hz65]
            rw [pj_nm_e]
            have fz65_0 : z65.toInt = z64.toInt - (Int32.ofInt 1).toInt := by rw [hz65]; exact pj_subI (by have := pj_i32 z64; have := pj_i32 (Int32.ofInt 1); omega) (by have := pj_i32 z64; have := pj_i32 (Int32.ofInt 1); omega)
            refine pj_X_of (fun r h => pj_R_to (G, 142, [(2, .int z64), (4, .int z43), (0, .ref 27), (1, .ref 33), (3, .int v3)], [.int (z43 - ((Int16.ofInt 3000).toInt32)), .int z65, .ref 30], 0, 0) 142 4 (fun _ => rfl) h) ?_
            obtain ⟨z66, hz66⟩ : ∃ z : Int32, z = z43 - ((Int16.ofInt 3000).toInt32) := ⟨_, rfl⟩
            rw [← hz66]
            rw [pj_nm_e]
            have fz66_0 : z66.toInt = z43.toInt - ((Int16.ofInt 3000).toInt32).toInt := by rw [hz66]; exact pj_subI (by have := pj_i32 z43; have := pj_i32 ((Int16.ofInt 3000).toInt32); omega) (by have := pj_i32 z43; have := pj_i32 ((Int16.ofInt 3000).toInt32); omega)
            refine pj_X_of (fun r h => pj_R_to (G, 143, [(2, .int z64), (4, .int z43), (0, .ref 27), (1, .ref 33), (3, .int v3)], [.ref 27, .int z66, .int z65, .ref 30], 0, 0) 143 2 (fun _ => rfl) h) ?_
            refine pj_X_of (fun r h => pj_T_gr hI rfl rfl rfl h) ?_
            refine pj_X_of (fun r h => pj_R_to (G, 149, [(2, .int z64), (4, .int z43), (0, .ref 27), (1, .ref 33), (3, .int v3)], [.int (z64 - (Int32.ofInt 1)), .ref 30, .int z66, .int z65, .ref 30], 0, 0) 149 4 (fun _ => rfl) h) ?_
            rw [← hz65]
            refine pj_X_of (fun r h => pj_T_il hI rfl rfl (by omega) (by omega) h) ?_
            show pj_X _ _ G 150 [(2, .int z64), (4, .int z43), (0, .ref 27), (1, .ref 33), (3, .int v3)] [.int (pj_ai G 30 z65.toInt.toNat), .int z66, .int z65, .ref 30] _
            obtain ⟨z67, hz67⟩ : ∃ z : Int32, z = pj_ai G 30 z65.toInt.toNat := ⟨_, rfl⟩
            rw [← hz67]
            rw [pj_nm_e]
            have ez67 : (pj_ai G 30 z65.toInt.toNat).toInt = z67.toInt := by rw [hz67]
            refine pj_X_of (fun r h => pj_R_to (G, 151, [(2, .int z64), (4, .int z43), (0, .ref 27), (1, .ref 33), (3, .int v3)], [.ref 27, .int z67, .int z66, .int z65, .ref 30], 0, 0) 151 2 (fun _ => rfl) h) ?_
            refine pj_X_of (fun r h => pj_T_gr hI rfl rfl rfl h) ?_
            refine pj_X_of (fun r h => pj_R_to (G, 155, [(2, .int z64), (4, .int z43), (0, .ref 27), (1, .ref 33), (3, .int v3)], [.int z64, .ref 30, .int z67, .int z66, .int z65, .ref 30], 0, 0) 155 2 (fun _ => rfl) h) ?_
            refine pj_X_of (fun r h => pj_T_il hI rfl rfl (by omega) (by omega) h) ?_
            show pj_X _ _ G 156 [(2, .int z64), (4, .int z43), (0, .ref 27), (1, .ref 33), (3, .int v3)] [.int (pj_ai G 30 z64.toInt.toNat), .int z67, .int z66, .int z65, .ref 30] _
            obtain ⟨z68, hz68⟩ : ∃ z : Int32, z = pj_ai G 30 z64.toInt.toNat := ⟨_, rfl⟩
            rw [← hz68]
            rw [pj_nm_e]
            have ez68 : (pj_ai G 30 z64.toInt.toNat).toInt = z68.toInt := by rw [hz68]
            refine pj_X_ca (vs := [.int z66, .int z67, .int z68]) rfl (fun _ => rfl) ⟨Nat.le_of_ble_eq_true rfl, Nat.le_of_ble_eq_true rfl, rfl⟩ ⟨rfl, rfl⟩ (pj_Y_up (by decide) (ct_66x G hI z66 z67 z68)) ?_
            rintro _ _ ⟨y69, rfl, rfl, ry69, fy69⟩
            rw [← fy69, pj_nm_e]
            show pj_X _ _ G 159 [(2, .int z64), (4, .int z43), (0, .ref 27), (1, .ref 33), (3, .int v3)] [.int y69, .int z65, .ref 30] _
            refine pj_X_of (fun r h => pj_T_is hI rfl rfl (by omega) (by omega) h) ?_
            show pj_X _ _ (pj_wa G 30 z65.toInt.toNat y69) 160 [(2, .int z64), (4, .int z43), (0, .ref 27), (1, .ref 33), (3, .int v3)] [] _
            obtain ⟨G70, hG70⟩ : ∃ H, H = pj_wa G 30 z65.toInt.toNat y69 := ⟨_, rfl⟩
            have iG70 : pj_Inv G70 := by rw [hG70]; exact pj_Inv_wa hI rfl (fun q hq => by cases hq) (fun n hn => by cases hn)
            have kG70 : pj_kpt kc_65x G0 G70 := by rw [hG70]; exact pj_kpt_a hK rfl
            rw [← hG70]
            rw [pj_nm_e]
            refine pj_X_of (fun r h => pj_R_to (G70, 163, [(3, .int (v3 + Int32.ofInt 1)), (2, .int z64), (4, .int z43), (0, .ref 27), (1, .ref 33)], [], 0, 0) 163 2 (fun _ => rfl) h) ?_
            obtain ⟨z71, hz71⟩ : ∃ z : Int32, z = v3 + Int32.ofInt 1 := ⟨_, rfl⟩
            rw [← hz71]
            rw [pj_nm_e]
            have fz71_0 : z71.toInt = v3.toInt + (Int32.ofInt 1).toInt := by rw [hz71]; exact pj_addI (by have := pj_i32 v3; have := pj_i32 (Int32.ofInt 1); omega) (by have := pj_i32 v3; have := pj_i32 (Int32.ofInt 1); omega)
            refine pj_X_of (fun r h => pj_R_to (G70, 26, [(3, .int z71), (2, .int z64), (4, .int z43), (0, .ref 27), (1, .ref 33)], [], 0, 0) 26 2 (fun _ => rfl) h) ?_
            exact pj_X_sub [(0, .ref 27), (1, .ref 33), (2, .int z64), (3, .int z71)] (show List.Nodup [0, 1, 2, 3] by decide) ⟨rfl, rfl, rfl, rfl, trivial⟩ (ih G70 iG70 kG70 z64 z71 ⟨by omega, by omega⟩ ⟨by omega, by omega⟩ (by omega))
          | false =>
            rw [pj_cF]
            have ub63 := pj_u_geF b63
            refine pj_X_of (fun r h => pj_R_icF rfl b63 h) ?_
            refine pj_X_of (fun r h => pj_R_to (G, 57, [(4, .int z43), (0, .ref 27), (1, .ref 33), (2, .int v2), (3, .int v3)], [.ref 27], 0, 0) 57 2 (fun _ => rfl) h) ?_
            refine pj_X_of (fun r h => pj_T_gr hI rfl rfl rfl h) ?_
            refine pj_X_of (fun r h => pj_R_to (G, 66, [(4, .int z43), (0, .ref 27), (1, .ref 33), (2, .int v2), (3, .int v3)], [.int ((Int16.ofInt 1000).toInt32), .int z43, .int v2, .ref 30], 0, 0) 66 4 (fun _ => rfl) h) ?_
            cases b72 : pj_c1 .ge z43 ((Int16.ofInt 1000).toInt32) with
            | true =>
              rw [pj_cT]
              have ub72 := pj_u_geT b72
              refine pj_X_of (fun r h => pj_R_icT 74 rfl rfl b72 h) ?_
              refine pj_X_of (fun r h => pj_R_to (G, 81, [(4, .int z43), (0, .ref 27), (1, .ref 33), (2, .int v2), (3, .int v3)], [.int (z43 - ((Int16.ofInt 1000).toInt32)), .ref 33, .int v2, .ref 30], 0, 0) 81 5 (fun _ => rfl) h) ?_
              obtain ⟨z73, hz73⟩ : ∃ z : Int32, z = z43 - ((Int16.ofInt 1000).toInt32) := ⟨_, rfl⟩
              rw [← hz73]
              rw [pj_nm_e]
              have fz73_0 : z73.toInt = z43.toInt - ((Int16.ofInt 1000).toInt32).toInt := by rw [hz73]; exact pj_subI (by have := pj_i32 z43; have := pj_i32 ((Int16.ofInt 1000).toInt32); omega) (by have := pj_i32 z43; have := pj_i32 ((Int16.ofInt 1000).toInt32); omega)
              refine pj_X_of (fun r h => pj_T_il hI rfl rfl (by omega) (by omega) h) ?_
              show pj_X _ _ G 82 [(4, .int z43), (0, .ref 27), (1, .ref 33), (2, .int v2), (3, .int v3)] [.int (pj_ai G 33 z73.toInt.toNat), .int v2, .ref 30] _
              obtain ⟨z74, hz74⟩ : ∃ z : Int32, z = pj_ai G 33 z73.toInt.toNat := ⟨_, rfl⟩
              rw [← hz74]
              rw [pj_nm_e]
              have ez74 : (pj_ai G 33 z73.toInt.toNat).toInt = z74.toInt := by rw [hz74]
              refine pj_X_of (fun r h => pj_T_is hI rfl rfl (by omega) (by omega) h) ?_
              show pj_X _ _ (pj_wa G 30 v2.toInt.toNat z74) 83 [(4, .int z43), (0, .ref 27), (1, .ref 33), (2, .int v2), (3, .int v3)] [] _
              obtain ⟨G75, hG75⟩ : ∃ H, H = pj_wa G 30 v2.toInt.toNat z74 := ⟨_, rfl⟩
              have iG75 : pj_Inv G75 := by rw [hG75]; exact pj_Inv_wa hI rfl (fun q hq => by cases hq) (fun n hn => by cases hn)
              have kG75 : pj_kpt kc_65x G0 G75 := by rw [hG75]; exact pj_kpt_a hK rfl
              rw [← hG75]
              rw [pj_nm_e]
              refine pj_X_of (fun r h => pj_R_to (G75, 86, [(2, .int (v2 + Int32.ofInt 1)), (4, .int z43), (0, .ref 27), (1, .ref 33), (3, .int v3)], [], 0, 0) 86 2 (fun _ => rfl) h) ?_
              obtain ⟨z76, hz76⟩ : ∃ z : Int32, z = v2 + Int32.ofInt 1 := ⟨_, rfl⟩
              rw [← hz76]
              rw [pj_nm_e]
              have fz76_0 : z76.toInt = v2.toInt + (Int32.ofInt 1).toInt := by rw [hz76]; exact pj_addI (by have := pj_i32 v2; have := pj_i32 (Int32.ofInt 1); omega) (by have := pj_i32 v2; have := pj_i32 (Int32.ofInt 1); omega)
              refine pj_X_of (fun r h => pj_R_to (G75, 163, [(3, .int (v3 + Int32.ofInt 1)), (2, .int z76), (4, .int z43), (0, .ref 27), (1, .ref 33)], [], 0, 0) 163 3 (fun _ => rfl) h) ?_
              obtain ⟨z77, hz77⟩ : ∃ z : Int32, z = v3 + Int32.ofInt 1 := ⟨_, rfl⟩
              rw [← hz77]
              rw [pj_nm_e]
              have fz77_0 : z77.toInt = v3.toInt + (Int32.ofInt 1).toInt := by rw [hz77]; exact pj_addI (by have := pj_i32 v3; have := pj_i32 (Int32.ofInt 1); omega) (by have := pj_i32 v3; have := pj_i32 (Int32.ofInt 1); omega)
              refine pj_X_of (fun r h => pj_R_to (G75, 26, [(3, .int z77), (2, .int z76), (4, .int z43), (0, .ref 27), (1, .ref 33)], [], 0, 0) 26 2 (fun _ => rfl) h) ?_
              exact pj_X_sub [(0, .ref 27), (1, .ref 33), (2, .int z76), (3, .int z77)] (show List.Nodup [0, 1, 2, 3] by decide) ⟨rfl, rfl, rfl, rfl, trivial⟩ (ih G75 iG75 kG75 z76 z77 ⟨by omega, by omega⟩ ⟨by omega, by omega⟩ (by omega))
            | false =>
              rw [pj_cF]
              have ub72 := pj_u_geF b72
              refine pj_X_of (fun r h => pj_R_icF rfl b72 h) ?_
              refine pj_X_of (fun r h => pj_R_to (G, 82, [(4, .int z43), (0, .ref 27), (1, .ref 33), (2, .int v2), (3, .int v3)], [.int z43, .int v2, .ref 30], 0, 0) 82 3 (fun _ => rfl) h) ?_
              refine pj_X_of (fun r h => pj_T_is hI rfl rfl (by omega) (by omega) h) ?_
              show pj_X _ _ (pj_wa G 30 v2.toInt.toNat z43) 83 [(4, .int z43), (0, .ref 27), (1, .ref 33), (2, .int v2), (3, .int v3)] [] _
              obtain ⟨G78, hG78⟩ : ∃ H, H = pj_wa G 30 v2.toInt.toNat z43 := ⟨_, rfl⟩
              have iG78 : pj_Inv G78 := by rw [hG78]; exact pj_Inv_wa hI rfl (fun q hq => by cases hq) (fun n hn => by cases hn)
              have kG78 : pj_kpt kc_65x G0 G78 := by rw [hG78]; exact pj_kpt_a hK rfl
              rw [← hG78]
              rw [pj_nm_e]
              refine pj_X_of (fun r h => pj_R_to (G78, 86, [(2, .int (v2 + Int32.ofInt 1)), (4, .int z43), (0, .ref 27), (1, .ref 33), (3, .int v3)], [], 0, 0) 86 2 (fun _ => rfl) h) ?_
              obtain ⟨z79, hz79⟩ : ∃ z : Int32, z = v2 + Int32.ofInt 1 := ⟨_, rfl⟩
              rw [← hz79]
              rw [pj_nm_e]
              have fz79_0 : z79.toInt = v2.toInt + (Int32.ofInt 1).toInt := by rw [hz79]; exact pj_addI (by have := pj_i32 v2; have := pj_i32 (Int32.ofInt 1); omega) (by have := pj_i32 v2; have := pj_i32 (Int32.ofInt 1); omega)
              refine pj_X_of (fun r h => pj_R_to (G78, 163, [(3, .int (v3 + Int32.ofInt 1)), (2, .int z79), (4, .int z43), (0, .ref 27), (1, .ref 33)], [], 0, 0) 163 3 (fun _ => rfl) h) ?_
              obtain ⟨z80, hz80⟩ : ∃ z : Int32, z = v3 + Int32.ofInt 1 := ⟨_, rfl⟩
              rw [← hz80]
              rw [pj_nm_e]
              have fz80_0 : z80.toInt = v3.toInt + (Int32.ofInt 1).toInt := by rw [hz80]; exact pj_addI (by have := pj_i32 v3; have := pj_i32 (Int32.ofInt 1); omega) (by have := pj_i32 v3; have := pj_i32 (Int32.ofInt 1); omega)
              refine pj_X_of (fun r h => pj_R_to (G78, 26, [(3, .int z80), (2, .int z79), (4, .int z43), (0, .ref 27), (1, .ref 33)], [], 0, 0) 26 2 (fun _ => rfl) h) ?_
              exact pj_X_sub [(0, .ref 27), (1, .ref 33), (2, .int z79), (3, .int z80)] (show List.Nodup [0, 1, 2, 3] by decide) ⟨rfl, rfl, rfl, rfl, trivial⟩ (ih G78 iG78 kG78 z79 z80 ⟨by omega, by omega⟩ ⟨by omega, by omega⟩ (by omega))
theorem ct_65x (G0 : pj_G) (hI : pj_Inv G0) : pj_Y 2 65 [.ref 27, .ref 33] G0 (fun v' G' => ∃ y : Int32, v' = some (.int y) ∧ pj_Inv G' ∧ pj_kpt kc_65x G0 G' ∧ ((-2147483648 : Int) ≤ y.toInt ∧ y.toInt ≤ 2147483647) ∧ ((y, G') = F_65x G0)) := by
  have c0_ : ((Int16.ofInt 1000).toInt32).toInt = 1000 := by decide
  have c1_ : ((Int16.ofInt 2000).toInt32).toInt = 2000 := by decide
  have c2_ : ((Int16.ofInt 3000).toInt32).toInt = 3000 := by decide
  have c3_ : ((Int8.ofInt 40).toInt32).toInt = 40 := by decide
  have c4_ : ((Int8.ofInt 9).toInt32).toInt = 9 := by decide
  have c5_ : (Int32.ofInt (-1)).toInt = -1 := by decide
  have c6_ : (Int32.ofInt 0).toInt = 0 := by decide
  have c7_ : (Int32.ofInt 1).toInt = 1 := by decide
  have c8_ : (Int32.ofInt 2).toInt = 2 := by decide
  refine pj_Y_X (M := pj_m65) rfl rfl (Nat.le_of_ble_eq_true rfl) ?_
  have hK : pj_kpt kc_65x G0 G0 := pj_kpt_r _ _
  show pj_X _ _ G0 0 [(0, .ref 27), (1, .ref 33)] [] _
  rw [F_65x_e]
  refine pj_X_of (fun r h => pj_R_to (G0, 1, [(0, .ref 27), (1, .ref 33)], [.ref 27], 0, 0) 1 2 (fun _ => rfl) h) ?_
  refine pj_X_of (fun r h => pj_T_gi hI rfl rfl h) ?_
  show pj_X _ _ G0 4 [(0, .ref 27), (1, .ref 33)] [.int (pj_fi G0 27 1)] _
  obtain ⟨y81, hy81⟩ : ∃ z : Int32, z = pj_fi G0 27 1 := ⟨_, rfl⟩
  rw [← hy81]
  rw [pj_nm_e]
  have ey81 : (pj_fi G0 27 1).toInt = y81.toInt := by rw [hy81]
  have ry81 : (0 : Int) ≤ y81.toInt ∧ y81.toInt ≤ 40 := by rw [hy81]; exact hI.2.1 27 1 (0, 40) rfl
  cases b82 : pj_c1 .ne y81 0 with
  | true =>
    rw [pj_cT]
    have ub82 := pj_u0_neT b82
    refine pj_X_of (fun r h => pj_R_ifT 22 rfl rfl b82 h) ?_
    refine pj_X_of (fun r h => pj_R_to (G0, 26, [(3, .int (Int32.ofInt 0)), (2, .int (Int32.ofInt 0)), (0, .ref 27), (1, .ref 33)], [], 0, 0) 26 5 (fun _ => rfl) h) ?_
    exact pj_X_sub [(0, .ref 27), (1, .ref 33), (2, .int (Int32.ofInt 0)), (3, .int (Int32.ofInt 0))] (show List.Nodup [0, 1, 2, 3] by decide) ⟨rfl, rfl, rfl, rfl, trivial⟩ ((lp_ct_65x G0 hI   41) G0 hI hK (Int32.ofInt 0) (Int32.ofInt 0) ⟨by omega, by omega⟩ ⟨by omega, by omega⟩ (by omega))
  | false =>
    rw [pj_cF]
    have ub82 := pj_u0_neF b82
    refine pj_X_of (fun r h => pj_R_ifF rfl b82 h) ?_
    refine pj_X_of (fun r h => pj_R_to (G0, 9, [(0, .ref 27), (1, .ref 33)], [.int (Int32.ofInt 0), .ref 33], 0, 0) 9 3 (fun _ => rfl) h) ?_
    refine pj_X_of (fun r h => pj_T_il hI rfl rfl (by omega) (by omega) h) ?_
    show pj_X _ _ G0 10 [(0, .ref 27), (1, .ref 33)] [.int (pj_ai G0 33 (Int32.ofInt 0).toInt.toNat)] _
    obtain ⟨z83, hz83⟩ : ∃ z : Int32, z = pj_ai G0 33 (Int32.ofInt 0).toInt.toNat := ⟨_, rfl⟩
    rw [← hz83]
    rw [pj_nm_e]
    have ez83 : (pj_ai G0 33 (Int32.ofInt 0).toInt.toNat).toInt = z83.toInt := by rw [hz83]
    refine pj_X_of (fun r h => pj_R_to (G0, 12, [(0, .ref 27), (1, .ref 33)], [.int ((Int8.ofInt 9).toInt32), .int z83], 0, 0) 12 2 (fun _ => rfl) h) ?_
    refine pj_X_of (fun r h => pj_R_dv rfl (pj_nz (by omega)) h) ?_
    show pj_X _ _ G0 13 [(0, .ref 27), (1, .ref 33)] [.int (z83 / ((Int8.ofInt 9).toInt32))] _
    obtain ⟨z84, hz84⟩ : ∃ z : Int32, z = z83 / ((Int8.ofInt 9).toInt32) := ⟨_, rfl⟩
    rw [← hz84]
    rw [pj_nm_e]
    refine pj_X_of (fun r h => pj_R_to (G0, 15, [(0, .ref 27), (1, .ref 33)], [.int (Int32.ofInt 1), .ref 33, .int z84], 0, 0) 15 3 (fun _ => rfl) h) ?_
    refine pj_X_of (fun r h => pj_T_il hI rfl rfl (by omega) (by omega) h) ?_
    show pj_X _ _ G0 16 [(0, .ref 27), (1, .ref 33)] [.int (pj_ai G0 33 (Int32.ofInt 1).toInt.toNat), .int z84] _
    obtain ⟨z85, hz85⟩ : ∃ z : Int32, z = pj_ai G0 33 (Int32.ofInt 1).toInt.toNat := ⟨_, rfl⟩
    rw [← hz85]
    rw [pj_nm_e]
    have ez85 : (pj_ai G0 33 (Int32.ofInt 1).toInt.toNat).toInt = z85.toInt := by rw [hz85]
    refine pj_X_of (fun r h => pj_R_to (G0, 18, [(0, .ref 27), (1, .ref 33)], [.int (z85 * (Int32.ofInt 2)), .int z84], 0, 0) 18 3 (fun _ => rfl) h) ?_
    obtain ⟨z86, hz86⟩ : ∃ z : Int32, z = z85 * (Int32.ofInt 2) := ⟨_, rfl⟩
    rw [← hz86]
    rw [pj_nm_e]
    refine pj_X_of (fun r h => pj_R_to (G0, 19, [(0, .ref 27), (1, .ref 33)], [.int (z84 + z86)], 0, 0) 19 2 (fun _ => rfl) h) ?_
    obtain ⟨z87, hz87⟩ : ∃ z : Int32, z = z84 + z86 := ⟨_, rfl⟩
    rw [← hz87]
    rw [pj_nm_e]
    refine pj_X_of (fun r h => pj_R_to (G0, 21, [(0, .ref 27), (1, .ref 33)], [.int (z87 + (Int32.ofInt 1))], 0, 0) 21 3 (fun _ => rfl) h) ?_
    obtain ⟨z88, hz88⟩ : ∃ z : Int32, z = z87 + (Int32.ofInt 1) := ⟨_, rfl⟩
    rw [← hz88]
    rw [pj_nm_e]
    exact pj_X_rt rfl rfl ⟨_, rfl, hI, hK, pj_i32 _, rfl⟩
theorem fr_65x (G0 : pj_G) (hI : pj_Inv G0) : pj_Inv (F_65x G0).2 ∧ pj_kpt kc_65x G0 (F_65x G0).2 := by
  obtain ⟨v, G', -, y, -, i, j, r, e⟩ := ct_65x G0 hI 
  rw [← e]
  exact ⟨i, j⟩
def kc_101x : pj_KT := ([], [30, 33], [30, 33])
noncomputable def F_101x (G0 : pj_G) (b : Int32) (c : Int32) : Int32 × pj_G := pj_nm (pj_ai G0 22 b.toInt.toNat) (fun z1 => pj_nm (F_100x G0 z1) (fun y2 => pj_nm (F_100x G0 c) (fun y3 => pj_nm (y3 - y2) (fun z4 => pj_nm ((if 0 ≤ z4 then z4 else 0 - z4)) (fun z5 => pj_nm (pj_wa G0 33 (Int32.ofInt 0).toInt.toNat z5) (fun G6 => cond (pj_c1 .ge y3 y2) (pj_nm (pj_wa G6 33 (Int32.ofInt 1).toInt.toNat (Int32.ofInt 0)) (fun G8 => pj_nm (pj_ai G8 31 b.toInt.toNat) (fun z9 => pj_nm (pj_wa G8 33 (Int32.ofInt 2).toInt.toNat z9) (fun G10 => pj_nm (pj_ai G10 24 b.toInt.toNat) (fun z11 => pj_nm (pj_wa G10 33 (Int32.ofInt 3).toInt.toNat z11) (fun G12 => cond (pj_c1 .ne c (Int32.ofInt (-1))) (cond (pj_rb G12 6 0 7) (pj_nm (pj_ai G12 11 c.toInt.toNat) (fun z15 => pj_nm (pj_wa G12 33 (Int32.ofInt 4).toInt.toNat z15) (fun G16 => pj_nm (pj_wa G16 33 (Int32.ofInt 5).toInt.toNat b) (fun G17 => pj_nm (pj_fi G17 21 7) (fun y18 => pj_nm (y18 - y18 / ((Int8.ofInt 24).toInt32) * ((Int8.ofInt 24).toInt32)) (fun z19 => pj_nm (pj_wa G17 33 ((Int8.ofInt 6).toInt32).toInt.toNat z19) (fun G20 => pj_bd (F_65x G20) (fun y21 G22 => pj_nm ((if y21 < ((Int8.ofInt 99).toInt32) then y21 else ((Int8.ofInt 99).toInt32))) (fun z23 => pj_nm ((if (Int32.ofInt 1) < z23 then z23 else (Int32.ofInt 1))) (fun z24 => (z24, G22))))))))))) (pj_nm (pj_ai G12 18 c.toInt.toNat) (fun z25 => pj_nm (pj_wa G12 33 (Int32.ofInt 4).toInt.toNat z25) (fun G26 => pj_nm (pj_wa G26 33 (Int32.ofInt 5).toInt.toNat b) (fun G27 => pj_nm (pj_fi G27 21 7) (fun y28 => pj_nm (y28 - y28 / ((Int8.ofInt 24).toInt32) * ((Int8.ofInt 24).toInt32)) (fun z29 => pj_nm (pj_wa G27 33 ((Int8.ofInt 6).toInt32).toInt.toNat z29) (fun G30 => pj_bd (F_65x G30) (fun y31 G32 => pj_nm ((if y31 < ((Int8.ofInt 99).toInt32) then y31 else ((Int8.ofInt 99).toInt32))) (fun z33 => pj_nm ((if (Int32.ofInt 1) < z33 then z33 else (Int32.ofInt 1))) (fun z34 => (z34, G32)))))))))))) (pj_nm (pj_wa G12 33 (Int32.ofInt 4).toInt.toNat (Int32.ofInt 0)) (fun G35 => pj_nm (pj_wa G35 33 (Int32.ofInt 5).toInt.toNat b) (fun G36 => pj_nm (pj_fi G36 21 7) (fun y37 => pj_nm (y37 - y37 / ((Int8.ofInt 24).toInt32) * ((Int8.ofInt 24).toInt32)) (fun z38 => pj_nm (pj_wa G36 33 ((Int8.ofInt 6).toInt32).toInt.toNat z38) (fun G39 => pj_bd (F_65x G39) (fun y40 G41 => pj_nm ((if y40 < ((Int8.ofInt 99).toInt32) then y40 else ((Int8.ofInt 99).toInt32))) (fun z42 => pj_nm ((if (Int32.ofInt 1) < z42 then z42 else (Int32.ofInt 1))) (fun z43 => (z43, G41)))))))))))))))) (pj_nm (pj_wa G6 33 (Int32.ofInt 1).toInt.toNat (Int32.ofInt 1)) (fun G44 => pj_nm (pj_ai G44 31 b.toInt.toNat) (fun z45 => pj_nm (pj_wa G44 33 (Int32.ofInt 2).toInt.toNat z45) (fun G46 => pj_nm (pj_ai G46 24 b.toInt.toNat) (fun z47 => pj_nm (pj_wa G46 33 (Int32.ofInt 3).toInt.toNat z47) (fun G48 => cond (pj_c1 .ne c (Int32.ofInt (-1))) (cond (pj_rb G48 6 0 7) (pj_nm (pj_ai G48 11 c.toInt.toNat) (fun z51 => pj_nm (pj_wa G48 33 (Int32.ofInt 4).toInt.toNat z51) (fun G52 => pj_nm (pj_wa G52 33 (Int32.ofInt 5).toInt.toNat b) (fun G53 => pj_nm (pj_fi G53 21 7) (fun y54 => pj_nm (y54 - y54 / ((Int8.ofInt 24).toInt32) * ((Int8.ofInt 24).toInt32)) (fun z55 => pj_nm (pj_wa G53 33 ((Int8.ofInt 6).toInt32).toInt.toNat z55) (fun G56 => pj_bd (F_65x G56) (fun y57 G58 => pj_nm ((if y57 < ((Int8.ofInt 99).toInt32) then y57 else ((Int8.ofInt 99).toInt32))) (fun z59 => pj_nm ((if (Int32.ofInt 1) < z59 then z59 else (Int32.ofInt 1))) (fun z60 => (z60, G58))))))))))) (pj_nm (pj_ai G48 18 c.toInt.toNat) (fun z61 => pj_nm (pj_wa G48 33 (Int32.ofInt 4).toInt.toNat z61) (fun G62 => pj_nm (pj_wa G62 33 (Int32.ofInt 5).toInt.toNat b) (fun G63 => pj_nm (pj_fi G63 21 7) (fun y64 => pj_nm (y64 - y64 / ((Int8.ofInt 24).toInt32) * ((Int8.ofInt 24).toInt32)) (fun z65 => pj_nm (pj_wa G63 33 ((Int8.ofInt 6).toInt32).toInt.toNat z65) (fun G66 => pj_bd (F_65x G66) (fun y67 G68 => pj_nm ((if y67 < ((Int8.ofInt 99).toInt32) then y67 else ((Int8.ofInt 99).toInt32))) (fun z69 => pj_nm ((if (Int32.ofInt 1) < z69 then z69 else (Int32.ofInt 1))) (fun z70 => (z70, G68)))))))))))) (pj_nm (pj_wa G48 33 (Int32.ofInt 4).toInt.toNat (Int32.ofInt 0)) (fun G71 => pj_nm (pj_wa G71 33 (Int32.ofInt 5).toInt.toNat b) (fun G72 => pj_nm (pj_fi G72 21 7) (fun y73 => pj_nm (y73 - y73 / ((Int8.ofInt 24).toInt32) * ((Int8.ofInt 24).toInt32)) (fun z74 => pj_nm (pj_wa G72 33 ((Int8.ofInt 6).toInt32).toInt.toNat z74) (fun G75 => pj_bd (F_65x G75) (fun y76 G77 => pj_nm ((if y76 < ((Int8.ofInt 99).toInt32) then y76 else ((Int8.ofInt 99).toInt32))) (fun z78 => pj_nm ((if (Int32.ofInt 1) < z78 then z78 else (Int32.ofInt 1))) (fun z79 => (z79, G77))))))))))))))))))))))
theorem F_101x_e (G0 : pj_G) (b : Int32) (c : Int32) : F_101x G0 b c = pj_nm (pj_ai G0 22 b.toInt.toNat) (fun z1 => pj_nm (F_100x G0 z1) (fun y2 => pj_nm (F_100x G0 c) (fun y3 => pj_nm (y3 - y2) (fun z4 => pj_nm ((if 0 ≤ z4 then z4 else 0 - z4)) (fun z5 => pj_nm (pj_wa G0 33 (Int32.ofInt 0).toInt.toNat z5) (fun G6 => cond (pj_c1 .ge y3 y2) (pj_nm (pj_wa G6 33 (Int32.ofInt 1).toInt.toNat (Int32.ofInt 0)) (fun G8 => pj_nm (pj_ai G8 31 b.toInt.toNat) (fun z9 => pj_nm (pj_wa G8 33 (Int32.ofInt 2).toInt.toNat z9) (fun G10 => pj_nm (pj_ai G10 24 b.toInt.toNat) (fun z11 => pj_nm (pj_wa G10 33 (Int32.ofInt 3).toInt.toNat z11) (fun G12 => cond (pj_c1 .ne c (Int32.ofInt (-1))) (cond (pj_rb G12 6 0 7) (pj_nm (pj_ai G12 11 c.toInt.toNat) (fun z15 => pj_nm (pj_wa G12 33 (Int32.ofInt 4).toInt.toNat z15) (fun G16 => pj_nm (pj_wa G16 33 (Int32.ofInt 5).toInt.toNat b) (fun G17 => pj_nm (pj_fi G17 21 7) (fun y18 => pj_nm (y18 - y18 / ((Int8.ofInt 24).toInt32) * ((Int8.ofInt 24).toInt32)) (fun z19 => pj_nm (pj_wa G17 33 ((Int8.ofInt 6).toInt32).toInt.toNat z19) (fun G20 => pj_bd (F_65x G20) (fun y21 G22 => pj_nm ((if y21 < ((Int8.ofInt 99).toInt32) then y21 else ((Int8.ofInt 99).toInt32))) (fun z23 => pj_nm ((if (Int32.ofInt 1) < z23 then z23 else (Int32.ofInt 1))) (fun z24 => (z24, G22))))))))))) (pj_nm (pj_ai G12 18 c.toInt.toNat) (fun z25 => pj_nm (pj_wa G12 33 (Int32.ofInt 4).toInt.toNat z25) (fun G26 => pj_nm (pj_wa G26 33 (Int32.ofInt 5).toInt.toNat b) (fun G27 => pj_nm (pj_fi G27 21 7) (fun y28 => pj_nm (y28 - y28 / ((Int8.ofInt 24).toInt32) * ((Int8.ofInt 24).toInt32)) (fun z29 => pj_nm (pj_wa G27 33 ((Int8.ofInt 6).toInt32).toInt.toNat z29) (fun G30 => pj_bd (F_65x G30) (fun y31 G32 => pj_nm ((if y31 < ((Int8.ofInt 99).toInt32) then y31 else ((Int8.ofInt 99).toInt32))) (fun z33 => pj_nm ((if (Int32.ofInt 1) < z33 then z33 else (Int32.ofInt 1))) (fun z34 => (z34, G32)))))))))))) (pj_nm (pj_wa G12 33 (Int32.ofInt 4).toInt.toNat (Int32.ofInt 0)) (fun G35 => pj_nm (pj_wa G35 33 (Int32.ofInt 5).toInt.toNat b) (fun G36 => pj_nm (pj_fi G36 21 7) (fun y37 => pj_nm (y37 - y37 / ((Int8.ofInt 24).toInt32) * ((Int8.ofInt 24).toInt32)) (fun z38 => pj_nm (pj_wa G36 33 ((Int8.ofInt 6).toInt32).toInt.toNat z38) (fun G39 => pj_bd (F_65x G39) (fun y40 G41 => pj_nm ((if y40 < ((Int8.ofInt 99).toInt32) then y40 else ((Int8.ofInt 99).toInt32))) (fun z42 => pj_nm ((if (Int32.ofInt 1) < z42 then z42 else (Int32.ofInt 1))) (fun z43 => (z43, G41)))))))))))))))) (pj_nm (pj_wa G6 33 (Int32.ofInt 1).toInt.toNat (Int32.ofInt 1)) (fun G44 => pj_nm (pj_ai G44 31 b.toInt.toNat) (fun z45 => pj_nm (pj_wa G44 33 (Int32.ofInt 2).toInt.toNat z45) (fun G46 => pj_nm (pj_ai G46 24 b.toInt.toNat) (fun z47 => pj_nm (pj_wa G46 33 (Int32.ofInt 3).toInt.toNat z47) (fun G48 => cond (pj_c1 .ne c (Int32.ofInt (-1))) (cond (pj_rb G48 6 0 7) (pj_nm (pj_ai G48 11 c.toInt.toNat) (fun z51 => pj_nm (pj_wa G48 33 (Int32.ofInt 4).toInt.toNat z51) (fun G52 => pj_nm (pj_wa G52 33 (Int32.ofInt 5).toInt.toNat b) (fun G53 => pj_nm (pj_fi G53 21 7) (fun y54 => pj_nm (y54 - y54 / ((Int8.ofInt 24).toInt32) * ((Int8.ofInt 24).toInt32)) (fun z55 => pj_nm (pj_wa G53 33 ((Int8.ofInt 6).toInt32).toInt.toNat z55) (fun G56 => pj_bd (F_65x G56) (fun y57 G58 => pj_nm ((if y57 < ((Int8.ofInt 99).toInt32) then y57 else ((Int8.ofInt 99).toInt32))) (fun z59 => pj_nm ((if (Int32.ofInt 1) < z59 then z59 else (Int32.ofInt 1))) (fun z60 => (z60, G58))))))))))) (pj_nm (pj_ai G48 18 c.toInt.toNat) (fun z61 => pj_nm (pj_wa G48 33 (Int32.ofInt 4).toInt.toNat z61) (fun G62 => pj_nm (pj_wa G62 33 (Int32.ofInt 5).toInt.toNat b) (fun G63 => pj_nm (pj_fi G63 21 7) (fun y64 => pj_nm (y64 - y64 / ((Int8.ofInt 24).toInt32) * ((Int8.ofInt 24).toInt32)) (fun z65 => pj_nm (pj_wa G63 33 ((Int8.ofInt 6).toInt32).toInt.toNat z65) (fun G66 => pj_bd (F_65x G66) (fun y67 G68 => pj_nm ((if y67 < ((Int8.ofInt 99).toInt32) then y67 else ((Int8.ofInt 99).toInt32))) (fun z69 => pj_nm ((if (Int32.ofInt 1) < z69 then z69 else (Int32.ofInt 1))) (fun z70 => (z70, G68)))))))))))) (pj_nm (pj_wa G48 33 (Int32.ofInt 4).toInt.toNat (Int32.ofInt 0)) (fun G71 => pj_nm (pj_wa G71 33 (Int32.ofInt 5).toInt.toNat b) (fun G72 => pj_nm (pj_fi G72 21 7) (fun y73 => pj_nm (y73 - y73 / ((Int8.ofInt 24).toInt32) * ((Int8.ofInt 24).toInt32)) (fun z74 => pj_nm (pj_wa G72 33 ((Int8.ofInt 6).toInt32).toInt.toNat z74) (fun G75 => pj_bd (F_65x G75) (fun y76 G77 => pj_nm ((if y76 < ((Int8.ofInt 99).toInt32) then y76 else ((Int8.ofInt 99).toInt32))) (fun z78 => pj_nm ((if (Int32.ofInt 1) < z78 then z78 else (Int32.ofInt 1))) (fun z79 => (z79, G77)))))))))))))))))))))) := rfl
theorem ct_101x (G0 : pj_G) (hI : pj_Inv G0) (b : Int32) (c : Int32) (rb : (0 : Int) ≤ b.toInt ∧ b.toInt ≤ 5) (rc : (-1 : Int) ≤ c.toInt ∧ c.toInt ≤ 9) : pj_Y 3 101 [.ref 6, .int b, .int c] G0 (fun v' G' => ∃ y : Int32, v' = some (.int y) ∧ pj_Inv G' ∧ pj_kpt kc_101x G0 G' ∧ ((1 : Int) ≤ y.toInt ∧ y.toInt ≤ 99) ∧ ((y, G') = F_101x G0 b c)) := by
  have c0_ : ((Int8.ofInt 24).toInt32).toInt = 24 := by decide
  have c1_ : ((Int8.ofInt 6).toInt32).toInt = 6 := by decide
  have c2_ : ((Int8.ofInt 99).toInt32).toInt = 99 := by decide
  have c3_ : (Int32.ofInt (-1)).toInt = -1 := by decide
  have c4_ : (Int32.ofInt 0).toInt = 0 := by decide
  have c5_ : (Int32.ofInt 1).toInt = 1 := by decide
  have c6_ : (Int32.ofInt 2).toInt = 2 := by decide
  have c7_ : (Int32.ofInt 3).toInt = 3 := by decide
  have c8_ : (Int32.ofInt 4).toInt = 4 := by decide
  have c9_ : (Int32.ofInt 5).toInt = 5 := by decide
  refine pj_Y_X (M := pj_m101) rfl rfl (Nat.le_of_ble_eq_true rfl) ?_
  have hK : pj_kpt kc_101x G0 G0 := pj_kpt_r _ _
  show pj_X _ _ G0 0 [(0, .ref 6), (1, .int b), (2, .int c)] [] _
  rw [F_101x_e]
  refine pj_X_of (fun r h => pj_R_to (G0, 2, [(0, .ref 6), (1, .int b), (2, .int c)], [.ref 6, .ref 6], 0, 0) 2 3 (fun _ => rfl) h) ?_
  refine pj_X_of (fun r h => pj_T_gr hI rfl rfl rfl h) ?_
  refine pj_X_of (fun r h => pj_T_gr hI rfl rfl rfl h) ?_
  refine pj_X_of (fun r h => pj_R_to (G0, 9, [(0, .ref 6), (1, .int b), (2, .int c)], [.int b, .ref 22, .ref 6], 0, 0) 9 2 (fun _ => rfl) h) ?_
  refine pj_X_of (fun r h => pj_T_il hI rfl rfl (by omega) (by omega) h) ?_
  show pj_X _ _ G0 10 [(0, .ref 6), (1, .int b), (2, .int c)] [.int (pj_ai G0 22 b.toInt.toNat), .ref 6] _
  obtain ⟨z1, hz1⟩ : ∃ z : Int32, z = pj_ai G0 22 b.toInt.toNat := ⟨_, rfl⟩
  rw [← hz1]
  rw [pj_nm_e]
  have ez1 : (pj_ai G0 22 b.toInt.toNat).toInt = z1.toInt := by rw [hz1]
  have fz1_0 : (-1 : Int) ≤ z1.toInt ∧ z1.toInt ≤ 9 ∧ (z1.toInt ≤ -1 ∨ -1 ≤ z1.toInt) := by rw [hz1]; exact hI.2.2.1 22 (6, -1, 9, -1, -1) rfl _ (by show _ < 6; omega)
  refine pj_X_ca (vs := [.ref 6, .int z1]) rfl (fun _ => rfl) ⟨Nat.le_of_ble_eq_true rfl, Nat.le_of_ble_eq_true rfl, pj_T_rcv hI rfl⟩ ⟨rfl, rfl⟩ (pj_Y_up (by decide) (ct_100x G0 hI z1 ⟨by omega, by omega⟩)) ?_
  rintro _ _ ⟨y2, rfl, rfl, ry2, fy2⟩
  rw [← fy2, pj_nm_e]
  show pj_X _ _ G0 13 [(0, .ref 6), (1, .int b), (2, .int c)] [.int y2] _
  refine pj_X_of (fun r h => pj_R_to (G0, 16, [(3, .int y2), (0, .ref 6), (1, .int b), (2, .int c)], [.int c, .ref 6], 0, 0) 16 4 (fun _ => rfl) h) ?_
  refine pj_X_ca (vs := [.ref 6, .int c]) rfl (fun _ => rfl) ⟨Nat.le_of_ble_eq_true rfl, Nat.le_of_ble_eq_true rfl, pj_T_rcv hI rfl⟩ ⟨rfl, rfl⟩ (pj_Y_up (by decide) (ct_100x G0 hI c ⟨by omega, by omega⟩)) ?_
  rintro _ _ ⟨y3, rfl, rfl, ry3, fy3⟩
  rw [← fy3, pj_nm_e]
  show pj_X _ _ G0 19 [(3, .int y2), (0, .ref 6), (1, .int b), (2, .int c)] [.int y3] _
  refine pj_X_of (fun r h => pj_R_to (G0, 22, [(4, .int y3), (3, .int y2), (0, .ref 6), (1, .int b), (2, .int c)], [.ref 6], 0, 0) 22 3 (fun _ => rfl) h) ?_
  refine pj_X_of (fun r h => pj_T_gr hI rfl rfl rfl h) ?_
  refine pj_X_of (fun r h => pj_R_to (G0, 30, [(4, .int y3), (3, .int y2), (0, .ref 6), (1, .int b), (2, .int c)], [.int (y3 - y2), .int (Int32.ofInt 0), .ref 33], 0, 0) 30 5 (fun _ => rfl) h) ?_
  obtain ⟨z4, hz4⟩ : ∃ z : Int32, z = y3 - y2 := ⟨_, rfl⟩
  rw [← hz4]
  rw [pj_nm_e]
  refine pj_X_of (fun r h => pj_R_ab (v := (if 0 ≤ z4 then z4 else 0 - z4)) rfl rfl rfl (Nat.le_of_ble_eq_true rfl) h) ?_
  show pj_X _ _ G0 33 [(4, .int y3), (3, .int y2), (0, .ref 6), (1, .int b), (2, .int c)] [.int (if 0 ≤ z4 then z4 else 0 - z4), .int (Int32.ofInt 0), .ref 33] _
  obtain ⟨z5, hz5⟩ : ∃ z : Int32, z = (if 0 ≤ z4 then z4 else 0 - z4) := ⟨_, rfl⟩
  rw [← hz5]
  rw [pj_nm_e]
  refine pj_X_of (fun r h => pj_T_is hI rfl rfl (by omega) (by omega) h) ?_
  show pj_X _ _ (pj_wa G0 33 (Int32.ofInt 0).toInt.toNat z5) 34 [(4, .int y3), (3, .int y2), (0, .ref 6), (1, .int b), (2, .int c)] [] _
  obtain ⟨G6, hG6⟩ : ∃ H, H = pj_wa G0 33 (Int32.ofInt 0).toInt.toNat z5 := ⟨_, rfl⟩
  have iG6 : pj_Inv G6 := by rw [hG6]; exact pj_Inv_wa hI rfl (fun q hq => by cases hq) (fun n hn => by cases hn)
  have kG6 : pj_kpt kc_101x G0 G6 := by rw [hG6]; exact pj_kpt_a hK rfl
  rw [← hG6]
  rw [pj_nm_e]
  refine pj_X_of (fun r h => pj_R_to (G6, 35, [(4, .int y3), (3, .int y2), (0, .ref 6), (1, .int b), (2, .int c)], [.ref 6], 0, 0) 35 2 (fun _ => rfl) h) ?_
  refine pj_X_of (fun r h => pj_T_gr iG6 rfl rfl rfl h) ?_
  refine pj_X_of (fun r h => pj_R_to (G6, 42, [(4, .int y3), (3, .int y2), (0, .ref 6), (1, .int b), (2, .int c)], [.int y2, .int y3, .int (Int32.ofInt 1), .ref 33], 0, 0) 42 4 (fun _ => rfl) h) ?_
  cases b7 : pj_c1 .ge y3 y2 with
  | true =>
    rw [pj_cT]
    have ub7 := pj_u_geT b7
    refine pj_X_of (fun r h => pj_R_icT 49 rfl rfl b7 h) ?_
    refine pj_X_of (fun r h => pj_R_to (G6, 50, [(4, .int y3), (3, .int y2), (0, .ref 6), (1, .int b), (2, .int c)], [.int (Int32.ofInt 0), .int (Int32.ofInt 1), .ref 33], 0, 0) 50 2 (fun _ => rfl) h) ?_
    refine pj_X_of (fun r h => pj_T_is iG6 rfl rfl (by omega) (by omega) h) ?_
    show pj_X _ _ (pj_wa G6 33 (Int32.ofInt 1).toInt.toNat (Int32.ofInt 0)) 51 [(4, .int y3), (3, .int y2), (0, .ref 6), (1, .int b), (2, .int c)] [] _
    obtain ⟨G8, hG8⟩ : ∃ H, H = pj_wa G6 33 (Int32.ofInt 1).toInt.toNat (Int32.ofInt 0) := ⟨_, rfl⟩
    have iG8 : pj_Inv G8 := by rw [hG8]; exact pj_Inv_wa iG6 rfl (fun q hq => by cases hq) (fun n hn => by cases hn)
    have kG8 : pj_kpt kc_101x G0 G8 := by rw [hG8]; exact pj_kpt_a kG6 rfl
    rw [← hG8]
    rw [pj_nm_e]
    refine pj_X_of (fun r h => pj_R_to (G8, 52, [(4, .int y3), (3, .int y2), (0, .ref 6), (1, .int b), (2, .int c)], [.ref 6], 0, 0) 52 2 (fun _ => rfl) h) ?_
    refine pj_X_of (fun r h => pj_T_gr iG8 rfl rfl rfl h) ?_
    refine pj_X_of (fun r h => pj_R_to (G8, 57, [(4, .int y3), (3, .int y2), (0, .ref 6), (1, .int b), (2, .int c)], [.ref 6, .int (Int32.ofInt 2), .ref 33], 0, 0) 57 3 (fun _ => rfl) h) ?_
    refine pj_X_of (fun r h => pj_T_gr iG8 rfl rfl rfl h) ?_
    refine pj_X_of (fun r h => pj_R_to (G8, 61, [(4, .int y3), (3, .int y2), (0, .ref 6), (1, .int b), (2, .int c)], [.int b, .ref 31, .int (Int32.ofInt 2), .ref 33], 0, 0) 61 2 (fun _ => rfl) h) ?_
    refine pj_X_of (fun r h => pj_T_il iG8 rfl rfl (by omega) (by omega) h) ?_
    show pj_X _ _ G8 62 [(4, .int y3), (3, .int y2), (0, .ref 6), (1, .int b), (2, .int c)] [.int (pj_ai G8 31 b.toInt.toNat), .int (Int32.ofInt 2), .ref 33] _
    obtain ⟨z9, hz9⟩ : ∃ z : Int32, z = pj_ai G8 31 b.toInt.toNat := ⟨_, rfl⟩
    rw [← hz9]
    rw [pj_nm_e]
    have ez9 : (pj_ai G8 31 b.toInt.toNat).toInt = z9.toInt := by rw [hz9]
    refine pj_X_of (fun r h => pj_T_is iG8 rfl rfl (by omega) (by omega) h) ?_
    show pj_X _ _ (pj_wa G8 33 (Int32.ofInt 2).toInt.toNat z9) 63 [(4, .int y3), (3, .int y2), (0, .ref 6), (1, .int b), (2, .int c)] [] _
    obtain ⟨G10, hG10⟩ : ∃ H, H = pj_wa G8 33 (Int32.ofInt 2).toInt.toNat z9 := ⟨_, rfl⟩
    have iG10 : pj_Inv G10 := by rw [hG10]; exact pj_Inv_wa iG8 rfl (fun q hq => by cases hq) (fun n hn => by cases hn)
    have kG10 : pj_kpt kc_101x G0 G10 := by rw [hG10]; exact pj_kpt_a kG8 rfl
    rw [← hG10]
    rw [pj_nm_e]
    refine pj_X_of (fun r h => pj_R_to (G10, 64, [(4, .int y3), (3, .int y2), (0, .ref 6), (1, .int b), (2, .int c)], [.ref 6], 0, 0) 64 2 (fun _ => rfl) h) ?_
    refine pj_X_of (fun r h => pj_T_gr iG10 rfl rfl rfl h) ?_
    refine pj_X_of (fun r h => pj_R_to (G10, 69, [(4, .int y3), (3, .int y2), (0, .ref 6), (1, .int b), (2, .int c)], [.ref 6, .int (Int32.ofInt 3), .ref 33], 0, 0) 69 3 (fun _ => rfl) h) ?_
    refine pj_X_of (fun r h => pj_T_gr iG10 rfl rfl rfl h) ?_
    refine pj_X_of (fun r h => pj_T_gr iG10 rfl rfl rfl h) ?_
    refine pj_X_of (fun r h => pj_R_to (G10, 76, [(4, .int y3), (3, .int y2), (0, .ref 6), (1, .int b), (2, .int c)], [.int b, .ref 24, .int (Int32.ofInt 3), .ref 33], 0, 0) 76 2 (fun _ => rfl) h) ?_
    refine pj_X_of (fun r h => pj_T_il iG10 rfl rfl (by omega) (by omega) h) ?_
    show pj_X _ _ G10 77 [(4, .int y3), (3, .int y2), (0, .ref 6), (1, .int b), (2, .int c)] [.int (pj_ai G10 24 b.toInt.toNat), .int (Int32.ofInt 3), .ref 33] _
    obtain ⟨z11, hz11⟩ : ∃ z : Int32, z = pj_ai G10 24 b.toInt.toNat := ⟨_, rfl⟩
    rw [← hz11]
    rw [pj_nm_e]
    have ez11 : (pj_ai G10 24 b.toInt.toNat).toInt = z11.toInt := by rw [hz11]
    refine pj_X_of (fun r h => pj_T_is iG10 rfl rfl (by omega) (by omega) h) ?_
    show pj_X _ _ (pj_wa G10 33 (Int32.ofInt 3).toInt.toNat z11) 78 [(4, .int y3), (3, .int y2), (0, .ref 6), (1, .int b), (2, .int c)] [] _
    obtain ⟨G12, hG12⟩ : ∃ H, H = pj_wa G10 33 (Int32.ofInt 3).toInt.toNat z11 := ⟨_, rfl⟩
    have iG12 : pj_Inv G12 := by rw [hG12]; exact pj_Inv_wa iG10 rfl (fun q hq => by cases hq) (fun n hn => by cases hn)
    have kG12 : pj_kpt kc_101x G0 G12 := by rw [hG12]; exact pj_kpt_a kG10 rfl
    rw [← hG12]
    rw [pj_nm_e]
    refine pj_X_of (fun r h => pj_R_to (G12, 79, [(4, .int y3), (3, .int y2), (0, .ref 6), (1, .int b), (2, .int c)], [.ref 6], 0, 0) 79 2 (fun _ => rfl) h) ?_
    refine pj_X_of (fun r h => pj_T_gr iG12 rfl rfl rfl h) ?_
    refine pj_X_of (fun r h => pj_R_to (G12, 85, [(4, .int y3), (3, .int y2), (0, .ref 6), (1, .int b), (2, .int c)], [.int (Int32.ofInt (-1)), .int c, .int (Int32.ofInt 4), .ref 33], 0, 0) 85 4 (fun _ => rfl) h) ?_
    cases b13 : pj_c1 .ne c (Int32.ofInt (-1)) with
    | true =>
      rw [pj_cT]
      have ub13 := pj_u_neT b13
      refine pj_X_of (fun r h => pj_R_icT 92 rfl rfl b13 h) ?_
      refine pj_X_of (fun r h => pj_R_to (G12, 93, [(4, .int y3), (3, .int y2), (0, .ref 6), (1, .int b), (2, .int c)], [.ref 6, .int (Int32.ofInt 4), .ref 33], 0, 0) 93 2 (fun _ => rfl) h) ?_
      refine pj_X_gm iG12 rfl rfl (fun q14 => ?_) (fun q14 => ?_)
      · rw [show pj_rb G12 6 0 7 = true from pj_rb_t q14, pj_cT]
        refine pj_X_of (fun r h => pj_T_gr iG12 rfl rfl rfl h) ?_
        refine pj_X_of (fun r h => pj_R_to (G12, 100, [(4, .int y3), (3, .int y2), (0, .ref 6), (1, .int b), (2, .int c)], [.int c, .ref 11, .int (Int32.ofInt 4), .ref 33], 0, 0) 100 2 (fun _ => rfl) h) ?_
        refine pj_X_of (fun r h => pj_T_il iG12 rfl rfl (by omega) (by omega) h) ?_
        show pj_X _ _ G12 101 [(4, .int y3), (3, .int y2), (0, .ref 6), (1, .int b), (2, .int c)] [.int (pj_ai G12 11 c.toInt.toNat), .int (Int32.ofInt 4), .ref 33] _
        obtain ⟨z15, hz15⟩ : ∃ z : Int32, z = pj_ai G12 11 c.toInt.toNat := ⟨_, rfl⟩
        rw [← hz15]
        rw [pj_nm_e]
        have ez15 : (pj_ai G12 11 c.toInt.toNat).toInt = z15.toInt := by rw [hz15]
        have fz15_0 : (0 : Int) ≤ z15.toInt ∧ z15.toInt ≤ 9 ∧ (z15.toInt ≤ 0 ∨ 0 ≤ z15.toInt) := by rw [hz15]; exact iG12.2.2.1 11 (10, 0, 9, 0, 0) rfl _ (by show _ < 10; omega)
        refine pj_X_of (fun r h => pj_T_is iG12 rfl rfl (by omega) (by omega) h) ?_
        show pj_X _ _ (pj_wa G12 33 (Int32.ofInt 4).toInt.toNat z15) 102 [(4, .int y3), (3, .int y2), (0, .ref 6), (1, .int b), (2, .int c)] [] _
        obtain ⟨G16, hG16⟩ : ∃ H, H = pj_wa G12 33 (Int32.ofInt 4).toInt.toNat z15 := ⟨_, rfl⟩
        have iG16 : pj_Inv G16 := by rw [hG16]; exact pj_Inv_wa iG12 rfl (fun q hq => by cases hq) (fun n hn => by cases hn)
        have kG16 : pj_kpt kc_101x G0 G16 := by rw [hG16]; exact pj_kpt_a kG12 rfl
        rw [← hG16]
        rw [pj_nm_e]
        refine pj_X_of (fun r h => pj_R_to (G16, 103, [(4, .int y3), (3, .int y2), (0, .ref 6), (1, .int b), (2, .int c)], [.ref 6], 0, 0) 103 2 (fun _ => rfl) h) ?_
        refine pj_X_of (fun r h => pj_T_gr iG16 rfl rfl rfl h) ?_
        refine pj_X_of (fun r h => pj_R_to (G16, 108, [(4, .int y3), (3, .int y2), (0, .ref 6), (1, .int b), (2, .int c)], [.int b, .int (Int32.ofInt 5), .ref 33], 0, 0) 108 3 (fun _ => rfl) h) ?_
        refine pj_X_of (fun r h => pj_T_is iG16 rfl rfl (by omega) (by omega) h) ?_
        show pj_X _ _ (pj_wa G16 33 (Int32.ofInt 5).toInt.toNat b) 109 [(4, .int y3), (3, .int y2), (0, .ref 6), (1, .int b), (2, .int c)] [] _
        obtain ⟨G17, hG17⟩ : ∃ H, H = pj_wa G16 33 (Int32.ofInt 5).toInt.toNat b := ⟨_, rfl⟩
        have iG17 : pj_Inv G17 := by rw [hG17]; exact pj_Inv_wa iG16 rfl (fun q hq => by cases hq) (fun n hn => by cases hn)
        have kG17 : pj_kpt kc_101x G0 G17 := by rw [hG17]; exact pj_kpt_a kG16 rfl
        rw [← hG17]
        rw [pj_nm_e]
        refine pj_X_of (fun r h => pj_R_to (G17, 110, [(4, .int y3), (3, .int y2), (0, .ref 6), (1, .int b), (2, .int c)], [.ref 6], 0, 0) 110 2 (fun _ => rfl) h) ?_
        refine pj_X_of (fun r h => pj_T_gr iG17 rfl rfl rfl h) ?_
        refine pj_X_of (fun r h => pj_R_to (G17, 116, [(4, .int y3), (3, .int y2), (0, .ref 6), (1, .int b), (2, .int c)], [.ref 6, .int ((Int8.ofInt 6).toInt32), .ref 33], 0, 0) 116 3 (fun _ => rfl) h) ?_
        refine pj_X_of (fun r h => pj_T_gr iG17 rfl rfl rfl h) ?_
        refine pj_X_of (fun r h => pj_T_gi iG17 rfl rfl h) ?_
        show pj_X _ _ G17 122 [(4, .int y3), (3, .int y2), (0, .ref 6), (1, .int b), (2, .int c)] [.int (pj_fi G17 21 7), .int ((Int8.ofInt 6).toInt32), .ref 33] _
        obtain ⟨y18, hy18⟩ : ∃ z : Int32, z = pj_fi G17 21 7 := ⟨_, rfl⟩
        rw [← hy18]
        rw [pj_nm_e]
        have ey18 : (pj_fi G17 21 7).toInt = y18.toInt := by rw [hy18]
        refine pj_X_of (fun r h => pj_R_to (G17, 124, [(4, .int y3), (3, .int y2), (0, .ref 6), (1, .int b), (2, .int c)], [.int ((Int8.ofInt 24).toInt32), .int y18, .int ((Int8.ofInt 6).toInt32), .ref 33], 0, 0) 124 2 (fun _ => rfl) h) ?_
        refine pj_X_of (fun r h => pj_R_rm rfl (pj_nz (by omega)) h) ?_
        show pj_X _ _ G17 125 [(4, .int y3), (3, .int y2), (0, .ref 6), (1, .int b), (2, .int c)] [.int (y18 - y18 / ((Int8.ofInt 24).toInt32) * ((Int8.ofInt 24).toInt32)), .int ((Int8.ofInt 6).toInt32), .ref 33] _
        obtain ⟨z19, hz19⟩ : ∃ z : Int32, z = y18 - y18 / ((Int8.ofInt 24).toInt32) * ((Int8.ofInt 24).toInt32) := ⟨_, rfl⟩
        rw [← hz19]
        rw [pj_nm_e]
        refine pj_X_of (fun r h => pj_T_is iG17 rfl rfl (by omega) (by omega) h) ?_
        show pj_X _ _ (pj_wa G17 33 ((Int8.ofInt 6).toInt32).toInt.toNat z19) 126 [(4, .int y3), (3, .int y2), (0, .ref 6), (1, .int b), (2, .int c)] [] _
        obtain ⟨G20, hG20⟩ : ∃ H, H = pj_wa G17 33 ((Int8.ofInt 6).toInt32).toInt.toNat z19 := ⟨_, rfl⟩
        have iG20 : pj_Inv G20 := by rw [hG20]; exact pj_Inv_wa iG17 rfl (fun q hq => by cases hq) (fun n hn => by cases hn)
        have kG20 : pj_kpt kc_101x G0 G20 := by rw [hG20]; exact pj_kpt_a kG17 rfl
        rw [← hG20]
        rw [pj_nm_e]
        refine pj_X_of (fun r h => pj_R_to (G20, 130, [(4, .int y3), (3, .int y2), (0, .ref 6), (1, .int b), (2, .int c)], [.ref 6, .int ((Int8.ofInt 99).toInt32), .int (Int32.ofInt 1)], 0, 0) 130 4 (fun _ => rfl) h) ?_
        refine pj_X_of (fun r h => pj_T_gr iG20 rfl rfl rfl h) ?_
        refine pj_X_of (fun r h => pj_R_to (G20, 134, [(4, .int y3), (3, .int y2), (0, .ref 6), (1, .int b), (2, .int c)], [.ref 6, .ref 27, .int ((Int8.ofInt 99).toInt32), .int (Int32.ofInt 1)], 0, 0) 134 2 (fun _ => rfl) h) ?_
        refine pj_X_of (fun r h => pj_T_gr iG20 rfl rfl rfl h) ?_
        refine pj_X_ca (vs := [.ref 27, .ref 33]) rfl (fun _ => rfl) ⟨Nat.le_of_ble_eq_true rfl, Nat.le_of_ble_eq_true rfl, pj_T_rcv iG20 rfl⟩ ⟨rfl, rfl⟩ (pj_Y_up (by decide) (ct_65x G20 iG20)) ?_
        rintro _ G22 ⟨y21, rfl, iG22, jG22, ry21, fy21⟩
        rw [← fy21, pj_bd_e]
        have kG22 : pj_kpt kc_101x G0 G22 := pj_kpt_t kG20 (pj_kpt_s jG22 rfl)
        show pj_X _ _ G22 140 [(4, .int y3), (3, .int y2), (0, .ref 6), (1, .int b), (2, .int c)] [.int y21, .int ((Int8.ofInt 99).toInt32), .int (Int32.ofInt 1)] _
        refine pj_X_of (fun r h => pj_R_mn (v := (if y21 < ((Int8.ofInt 99).toInt32) then y21 else ((Int8.ofInt 99).toInt32))) rfl rfl rfl (Nat.le_of_ble_eq_true rfl) h) ?_
        show pj_X _ _ G22 143 [(4, .int y3), (3, .int y2), (0, .ref 6), (1, .int b), (2, .int c)] [.int (if y21 < ((Int8.ofInt 99).toInt32) then y21 else ((Int8.ofInt 99).toInt32)), .int (Int32.ofInt 1)] _
        obtain ⟨z23, hz23⟩ : ∃ z : Int32, z = (if y21 < ((Int8.ofInt 99).toInt32) then y21 else ((Int8.ofInt 99).toInt32)) := ⟨_, rfl⟩
        rw [← hz23]
        rw [pj_nm_e]
        have fz23_0 : z23.toInt ≤ ((Int8.ofInt 99).toInt32).toInt ∧ z23.toInt ≤ y21.toInt ∧ (z23.toInt = ((Int8.ofInt 99).toInt32).toInt ∨ z23.toInt = y21.toInt) := by rw [hz23]; exact pj_minI
        refine pj_X_of (fun r h => pj_R_mx (v := (if (Int32.ofInt 1) < z23 then z23 else (Int32.ofInt 1))) rfl rfl rfl (Nat.le_of_ble_eq_true rfl) h) ?_
        show pj_X _ _ G22 146 [(4, .int y3), (3, .int y2), (0, .ref 6), (1, .int b), (2, .int c)] [.int (if (Int32.ofInt 1) < z23 then z23 else (Int32.ofInt 1))] _
        obtain ⟨z24, hz24⟩ : ∃ z : Int32, z = (if (Int32.ofInt 1) < z23 then z23 else (Int32.ofInt 1)) := ⟨_, rfl⟩
        rw [← hz24]
        rw [pj_nm_e]
        have fz24_0 : (Int32.ofInt 1).toInt ≤ z24.toInt ∧ z23.toInt ≤ z24.toInt ∧ (z24.toInt = (Int32.ofInt 1).toInt ∨ z24.toInt = z23.toInt) := by rw [hz24]; exact pj_maxI
        exact pj_X_rt rfl rfl ⟨_, rfl, iG22, kG22, ⟨by omega, by omega⟩, rfl⟩
      · rw [show pj_rb G12 6 0 7 = false from pj_rb_f q14 rfl, pj_cF]
        refine pj_X_of (fun r h => pj_T_gr iG12 rfl rfl rfl h) ?_
        refine pj_X_of (fun r h => pj_R_to (G12, 100, [(4, .int y3), (3, .int y2), (0, .ref 6), (1, .int b), (2, .int c)], [.int c, .ref 18, .int (Int32.ofInt 4), .ref 33], 0, 0) 100 2 (fun _ => rfl) h) ?_
        refine pj_X_of (fun r h => pj_T_il iG12 rfl rfl (by omega) (by omega) h) ?_
        show pj_X _ _ G12 101 [(4, .int y3), (3, .int y2), (0, .ref 6), (1, .int b), (2, .int c)] [.int (pj_ai G12 18 c.toInt.toNat), .int (Int32.ofInt 4), .ref 33] _
        obtain ⟨z25, hz25⟩ : ∃ z : Int32, z = pj_ai G12 18 c.toInt.toNat := ⟨_, rfl⟩
        rw [← hz25]
        rw [pj_nm_e]
        have ez25 : (pj_ai G12 18 c.toInt.toNat).toInt = z25.toInt := by rw [hz25]
        have fz25_0 : (0 : Int) ≤ z25.toInt ∧ z25.toInt ≤ 9 ∧ (z25.toInt ≤ 0 ∨ 0 ≤ z25.toInt) := by rw [hz25]; exact iG12.2.2.1 18 (10, 0, 9, 0, 0) rfl _ (by show _ < 10; omega)
        refine pj_X_of (fun r h => pj_T_is iG12 rfl rfl (by omega) (by omega) h) ?_
        show pj_X _ _ (pj_wa G12 33 (Int32.ofInt 4).toInt.toNat z25) 102 [(4, .int y3), (3, .int y2), (0, .ref 6), (1, .int b), (2, .int c)] [] _
        obtain ⟨G26, hG26⟩ : ∃ H, H = pj_wa G12 33 (Int32.ofInt 4).toInt.toNat z25 := ⟨_, rfl⟩
        have iG26 : pj_Inv G26 := by rw [hG26]; exact pj_Inv_wa iG12 rfl (fun q hq => by cases hq) (fun n hn => by cases hn)
        have kG26 : pj_kpt kc_101x G0 G26 := by rw [hG26]; exact pj_kpt_a kG12 rfl
        rw [← hG26]
        rw [pj_nm_e]
        refine pj_X_of (fun r h => pj_R_to (G26, 103, [(4, .int y3), (3, .int y2), (0, .ref 6), (1, .int b), (2, .int c)], [.ref 6], 0, 0) 103 2 (fun _ => rfl) h) ?_
        refine pj_X_of (fun r h => pj_T_gr iG26 rfl rfl rfl h) ?_
        refine pj_X_of (fun r h => pj_R_to (G26, 108, [(4, .int y3), (3, .int y2), (0, .ref 6), (1, .int b), (2, .int c)], [.int b, .int (Int32.ofInt 5), .ref 33], 0, 0) 108 3 (fun _ => rfl) h) ?_
        refine pj_X_of (fun r h => pj_T_is iG26 rfl rfl (by omega) (by omega) h) ?_
        show pj_X _ _ (pj_wa G26 33 (Int32.ofInt 5).toInt.toNat b) 109 [(4, .int y3), (3, .int y2), (0, .ref 6), (1, .int b), (2, .int c)] [] _
        obtain ⟨G27, hG27⟩ : ∃ H, H = pj_wa G26 33 (Int32.ofInt 5).toInt.toNat b := ⟨_, rfl⟩
        have iG27 : pj_Inv G27 := by rw [hG27]; exact pj_Inv_wa iG26 rfl (fun q hq => by cases hq) (fun n hn => by cases hn)
        have kG27 : pj_kpt kc_101x G0 G27 := by rw [hG27]; exact pj_kpt_a kG26 rfl
        rw [← hG27]
        rw [pj_nm_e]
        refine pj_X_of (fun r h => pj_R_to (G27, 110, [(4, .int y3), (3, .int y2), (0, .ref 6), (1, .int b), (2, .int c)], [.ref 6], 0, 0) 110 2 (fun _ => rfl) h) ?_
        refine pj_X_of (fun r h => pj_T_gr iG27 rfl rfl rfl h) ?_
        refine pj_X_of (fun r h => pj_R_to (G27, 116, [(4, .int y3), (3, .int y2), (0, .ref 6), (1, .int b), (2, .int c)], [.ref 6, .int ((Int8.ofInt 6).toInt32), .ref 33], 0, 0) 116 3 (fun _ => rfl) h) ?_
        refine pj_X_of (fun r h => pj_T_gr iG27 rfl rfl rfl h) ?_
        refine pj_X_of (fun r h => pj_T_gi iG27 rfl rfl h) ?_
        show pj_X _ _ G27 122 [(4, .int y3), (3, .int y2), (0, .ref 6), (1, .int b), (2, .int c)] [.int (pj_fi G27 21 7), .int ((Int8.ofInt 6).toInt32), .ref 33] _
        obtain ⟨y28, hy28⟩ : ∃ z : Int32, z = pj_fi G27 21 7 := ⟨_, rfl⟩
        rw [← hy28]
        rw [pj_nm_e]
        have ey28 : (pj_fi G27 21 7).toInt = y28.toInt := by rw [hy28]
        refine pj_X_of (fun r h => pj_R_to (G27, 124, [(4, .int y3), (3, .int y2), (0, .ref 6), (1, .int b), (2, .int c)], [.int ((Int8.ofInt 24).toInt32), .int y28, .int ((Int8.ofInt 6).toInt32), .ref 33], 0, 0) 124 2 (fun _ => rfl) h) ?_
        refine pj_X_of (fun r h => pj_R_rm rfl (pj_nz (by omega)) h) ?_
        show pj_X _ _ G27 125 [(4, .int y3), (3, .int y2), (0, .ref 6), (1, .int b), (2, .int c)] [.int (y28 - y28 / ((Int8.ofInt 24).toInt32) * ((Int8.ofInt 24).toInt32)), .int ((Int8.ofInt 6).toInt32), .ref 33] _
        obtain ⟨z29, hz29⟩ : ∃ z : Int32, z = y28 - y28 / ((Int8.ofInt 24).toInt32) * ((Int8.ofInt 24).toInt32) := ⟨_, rfl⟩
        rw [← hz29]
        rw [pj_nm_e]
        refine pj_X_of (fun r h => pj_T_is iG27 rfl rfl (by omega) (by omega) h) ?_
        show pj_X _ _ (pj_wa G27 33 ((Int8.ofInt 6).toInt32).toInt.toNat z29) 126 [(4, .int y3), (3, .int y2), (0, .ref 6), (1, .int b), (2, .int c)] [] _
        obtain ⟨G30, hG30⟩ : ∃ H, H = pj_wa G27 33 ((Int8.ofInt 6).toInt32).toInt.toNat z29 := ⟨_, rfl⟩
        have iG30 : pj_Inv G30 := by rw [hG30]; exact pj_Inv_wa iG27 rfl (fun q hq => by cases hq) (fun n hn => by cases hn)
        have kG30 : pj_kpt kc_101x G0 G30 := by rw [hG30]; exact pj_kpt_a kG27 rfl
        rw [← hG30]
        rw [pj_nm_e]
        refine pj_X_of (fun r h => pj_R_to (G30, 130, [(4, .int y3), (3, .int y2), (0, .ref 6), (1, .int b), (2, .int c)], [.ref 6, .int ((Int8.ofInt 99).toInt32), .int (Int32.ofInt 1)], 0, 0) 130 4 (fun _ => rfl) h) ?_
        refine pj_X_of (fun r h => pj_T_gr iG30 rfl rfl rfl h) ?_
        refine pj_X_of (fun r h => pj_R_to (G30, 134, [(4, .int y3), (3, .int y2), (0, .ref 6), (1, .int b), (2, .int c)], [.ref 6, .ref 27, .int ((Int8.ofInt 99).toInt32), .int (Int32.ofInt 1)], 0, 0) 134 2 (fun _ => rfl) h) ?_
        refine pj_X_of (fun r h => pj_T_gr iG30 rfl rfl rfl h) ?_
        refine pj_X_ca (vs := [.ref 27, .ref 33]) rfl (fun _ => rfl) ⟨Nat.le_of_ble_eq_true rfl, Nat.le_of_ble_eq_true rfl, pj_T_rcv iG30 rfl⟩ ⟨rfl, rfl⟩ (pj_Y_up (by decide) (ct_65x G30 iG30)) ?_
        rintro _ G32 ⟨y31, rfl, iG32, jG32, ry31, fy31⟩
        rw [← fy31, pj_bd_e]
        have kG32 : pj_kpt kc_101x G0 G32 := pj_kpt_t kG30 (pj_kpt_s jG32 rfl)
        show pj_X _ _ G32 140 [(4, .int y3), (3, .int y2), (0, .ref 6), (1, .int b), (2, .int c)] [.int y31, .int ((Int8.ofInt 99).toInt32), .int (Int32.ofInt 1)] _
        refine pj_X_of (fun r h => pj_R_mn (v := (if y31 < ((Int8.ofInt 99).toInt32) then y31 else ((Int8.ofInt 99).toInt32))) rfl rfl rfl (Nat.le_of_ble_eq_true rfl) h) ?_
        show pj_X _ _ G32 143 [(4, .int y3), (3, .int y2), (0, .ref 6), (1, .int b), (2, .int c)] [.int (if y31 < ((Int8.ofInt 99).toInt32) then y31 else ((Int8.ofInt 99).toInt32)), .int (Int32.ofInt 1)] _
        obtain ⟨z33, hz33⟩ : ∃ z : Int32, z = (if y31 < ((Int8.ofInt 99).toInt32) then y31 else ((Int8.ofInt 99).toInt32)) := ⟨_, rfl⟩
        rw [← hz33]
        rw [pj_nm_e]
        have fz33_0 : z33.toInt ≤ ((Int8.ofInt 99).toInt32).toInt ∧ z33.toInt ≤ y31.toInt ∧ (z33.toInt = ((Int8.ofInt 99).toInt32).toInt ∨ z33.toInt = y31.toInt) := by rw [hz33]; exact pj_minI
        refine pj_X_of (fun r h => pj_R_mx (v := (if (Int32.ofInt 1) < z33 then z33 else (Int32.ofInt 1))) rfl rfl rfl (Nat.le_of_ble_eq_true rfl) h) ?_
        show pj_X _ _ G32 146 [(4, .int y3), (3, .int y2), (0, .ref 6), (1, .int b), (2, .int c)] [.int (if (Int32.ofInt 1) < z33 then z33 else (Int32.ofInt 1))] _
        obtain ⟨z34, hz34⟩ : ∃ z : Int32, z = (if (Int32.ofInt 1) < z33 then z33 else (Int32.ofInt 1)) := ⟨_, rfl⟩
        rw [← hz34]
        rw [pj_nm_e]
        have fz34_0 : (Int32.ofInt 1).toInt ≤ z34.toInt ∧ z33.toInt ≤ z34.toInt ∧ (z34.toInt = (Int32.ofInt 1).toInt ∨ z34.toInt = z33.toInt) := by rw [hz34]; exact pj_maxI
        exact pj_X_rt rfl rfl ⟨_, rfl, iG32, kG32, ⟨by omega, by omega⟩, rfl⟩
    | false =>
      rw [pj_cF]
      have ub13 := pj_u_neF b13
      refine pj_X_of (fun r h => pj_R_icF rfl b13 h) ?_
      refine pj_X_of (fun r h => pj_R_to (G12, 101, [(4, .int y3), (3, .int y2), (0, .ref 6), (1, .int b), (2, .int c)], [.int (Int32.ofInt 0), .int (Int32.ofInt 4), .ref 33], 0, 0) 101 3 (fun _ => rfl) h) ?_
      refine pj_X_of (fun r h => pj_T_is iG12 rfl rfl (by omega) (by omega) h) ?_
      show pj_X _ _ (pj_wa G12 33 (Int32.ofInt 4).toInt.toNat (Int32.ofInt 0)) 102 [(4, .int y3), (3, .int y2), (0, .ref 6), (1, .int b), (2, .int c)] [] _
      obtain ⟨G35, hG35⟩ : ∃ H, H = pj_wa G12 33 (Int32.ofInt 4).toInt.toNat (Int32.ofInt 0) := ⟨_, rfl⟩
      have iG35 : pj_Inv G35 := by rw [hG35]; exact pj_Inv_wa iG12 rfl (fun q hq => by cases hq) (fun n hn => by cases hn)
      have kG35 : pj_kpt kc_101x G0 G35 := by rw [hG35]; exact pj_kpt_a kG12 rfl
      rw [← hG35]
      rw [pj_nm_e]
      refine pj_X_of (fun r h => pj_R_to (G35, 103, [(4, .int y3), (3, .int y2), (0, .ref 6), (1, .int b), (2, .int c)], [.ref 6], 0, 0) 103 2 (fun _ => rfl) h) ?_
      refine pj_X_of (fun r h => pj_T_gr iG35 rfl rfl rfl h) ?_
      refine pj_X_of (fun r h => pj_R_to (G35, 108, [(4, .int y3), (3, .int y2), (0, .ref 6), (1, .int b), (2, .int c)], [.int b, .int (Int32.ofInt 5), .ref 33], 0, 0) 108 3 (fun _ => rfl) h) ?_
      refine pj_X_of (fun r h => pj_T_is iG35 rfl rfl (by omega) (by omega) h) ?_
      show pj_X _ _ (pj_wa G35 33 (Int32.ofInt 5).toInt.toNat b) 109 [(4, .int y3), (3, .int y2), (0, .ref 6), (1, .int b), (2, .int c)] [] _
      obtain ⟨G36, hG36⟩ : ∃ H, H = pj_wa G35 33 (Int32.ofInt 5).toInt.toNat b := ⟨_, rfl⟩
      have iG36 : pj_Inv G36 := by rw [hG36]; exact pj_Inv_wa iG35 rfl (fun q hq => by cases hq) (fun n hn => by cases hn)
      have kG36 : pj_kpt kc_101x G0 G36 := by rw [hG36]; exact pj_kpt_a kG35 rfl
      rw [← hG36]
      rw [pj_nm_e]
      refine pj_X_of (fun r h => pj_R_to (G36, 110, [(4, .int y3), (3, .int y2), (0, .ref 6), (1, .int b), (2, .int c)], [.ref 6], 0, 0) 110 2 (fun _ => rfl) h) ?_
      refine pj_X_of (fun r h => pj_T_gr iG36 rfl rfl rfl h) ?_
      refine pj_X_of (fun r h => pj_R_to (G36, 116, [(4, .int y3), (3, .int y2), (0, .ref 6), (1, .int b), (2, .int c)], [.ref 6, .int ((Int8.ofInt 6).toInt32), .ref 33], 0, 0) 116 3 (fun _ => rfl) h) ?_
      refine pj_X_of (fun r h => pj_T_gr iG36 rfl rfl rfl h) ?_
      refine pj_X_of (fun r h => pj_T_gi iG36 rfl rfl h) ?_
      show pj_X _ _ G36 122 [(4, .int y3), (3, .int y2), (0, .ref 6), (1, .int b), (2, .int c)] [.int (pj_fi G36 21 7), .int ((Int8.ofInt 6).toInt32), .ref 33] _
      obtain ⟨y37, hy37⟩ : ∃ z : Int32, z = pj_fi G36 21 7 := ⟨_, rfl⟩
      rw [← hy37]
      rw [pj_nm_e]
      have ey37 : (pj_fi G36 21 7).toInt = y37.toInt := by rw [hy37]
      refine pj_X_of (fun r h => pj_R_to (G36, 124, [(4, .int y3), (3, .int y2), (0, .ref 6), (1, .int b), (2, .int c)], [.int ((Int8.ofInt 24).toInt32), .int y37, .int ((Int8.ofInt 6).toInt32), .ref 33], 0, 0) 124 2 (fun _ => rfl) h) ?_
      refine pj_X_of (fun r h => pj_R_rm rfl (pj_nz (by omega)) h) ?_
      show pj_X _ _ G36 125 [(4, .int y3), (3, .int y2), (0, .ref 6), (1, .int b), (2, .int c)] [.int (y37 - y37 / ((Int8.ofInt 24).toInt32) * ((Int8.ofInt 24).toInt32)), .int ((Int8.ofInt 6).toInt32), .ref 33] _
      obtain ⟨z38, hz38⟩ : ∃ z : Int32, z = y37 - y37 / ((Int8.ofInt 24).toInt32) * ((Int8.ofInt 24).toInt32) := ⟨_, rfl⟩
      rw [← hz38]
      rw [pj_nm_e]
      refine pj_X_of (fun r h => pj_T_is iG36 rfl rfl (by omega) (by omega) h) ?_
      show pj_X _ _ (pj_wa G36 33 ((Int8.ofInt 6).toInt32).toInt.toNat z38) 126 [(4, .int y3), (3, .int y2), (0, .ref 6), (1, .int b), (2, .int c)] [] _
      obtain ⟨G39, hG39⟩ : ∃ H, H = pj_wa G36 33 ((Int8.ofInt 6).toInt32).toInt.toNat z38 := ⟨_, rfl⟩
      have iG39 : pj_Inv G39 := by rw [hG39]; exact pj_Inv_wa iG36 rfl (fun q hq => by cases hq) (fun n hn => by cases hn)
      have kG39 : pj_kpt kc_101x G0 G39 := by rw [hG39]; exact pj_kpt_a kG36 rfl
      rw [← hG39]
      rw [pj_nm_e]
      refine pj_X_of (fun r h => pj_R_to (G39, 130, [(4, .int y3), (3, .int y2), (0, .ref 6), (1, .int b), (2, .int c)], [.ref 6, .int ((Int8.ofInt 99).toInt32), .int (Int32.ofInt 1)], 0, 0) 130 4 (fun _ => rfl) h) ?_
      refine pj_X_of (fun r h => pj_T_gr iG39 rfl rfl rfl h) ?_
      refine pj_X_of (fun r h => pj_R_to (G39, 134, [(4, .int y3), (3, .int y2), (0, .ref 6), (1, .int b), (2, .int c)], [.ref 6, .ref 27, .int ((Int8.ofInt 99).toInt32), .int (Int32.ofInt 1)], 0, 0) 134 2 (fun _ => rfl) h) ?_
      refine pj_X_of (fun r h => pj_T_gr iG39 rfl rfl rfl h) ?_
      refine pj_X_ca (vs := [.ref 27, .ref 33]) rfl (fun _ => rfl) ⟨Nat.le_of_ble_eq_true rfl, Nat.le_of_ble_eq_true rfl, pj_T_rcv iG39 rfl⟩ ⟨rfl, rfl⟩ (pj_Y_up (by decide) (ct_65x G39 iG39)) ?_
      rintro _ G41 ⟨y40, rfl, iG41, jG41, ry40, fy40⟩
      rw [← fy40, pj_bd_e]
      have kG41 : pj_kpt kc_101x G0 G41 := pj_kpt_t kG39 (pj_kpt_s jG41 rfl)
      show pj_X _ _ G41 140 [(4, .int y3), (3, .int y2), (0, .ref 6), (1, .int b), (2, .int c)] [.int y40, .int ((Int8.ofInt 99).toInt32), .int (Int32.ofInt 1)] _
      refine pj_X_of (fun r h => pj_R_mn (v := (if y40 < ((Int8.ofInt 99).toInt32) then y40 else ((Int8.ofInt 99).toInt32))) rfl rfl rfl (Nat.le_of_ble_eq_true rfl) h) ?_
      show pj_X _ _ G41 143 [(4, .int y3), (3, .int y2), (0, .ref 6), (1, .int b), (2, .int c)] [.int (if y40 < ((Int8.ofInt 99).toInt32) then y40 else ((Int8.ofInt 99).toInt32)), .int (Int32.ofInt 1)] _
      obtain ⟨z42, hz42⟩ : ∃ z : Int32, z = (if y40 < ((Int8.ofInt 99).toInt32) then y40 else ((Int8.ofInt 99).toInt32)) := ⟨_, rfl⟩
      rw [← hz42]
      rw [pj_nm_e]
      have fz42_0 : z42.toInt ≤ ((Int8.ofInt 99).toInt32).toInt ∧ z42.toInt ≤ y40.toInt ∧ (z42.toInt = ((Int8.ofInt 99).toInt32).toInt ∨ z42.toInt = y40.toInt) := by rw [hz42]; exact pj_minI
      refine pj_X_of (fun r h => pj_R_mx (v := (if (Int32.ofInt 1) < z42 then z42 else (Int32.ofInt 1))) rfl rfl rfl (Nat.le_of_ble_eq_true rfl) h) ?_
      show pj_X _ _ G41 146 [(4, .int y3), (3, .int y2), (0, .ref 6), (1, .int b), (2, .int c)] [.int (if (Int32.ofInt 1) < z42 then z42 else (Int32.ofInt 1))] _
      obtain ⟨z43, hz43⟩ : ∃ z : Int32, z = (if (Int32.ofInt 1) < z42 then z42 else (Int32.ofInt 1)) := ⟨_, rfl⟩
      rw [← hz43]
      rw [pj_nm_e]
      have fz43_0 : (Int32.ofInt 1).toInt ≤ z43.toInt ∧ z42.toInt ≤ z43.toInt ∧ (z43.toInt = (Int32.ofInt 1).toInt ∨ z43.toInt = z42.toInt) := by rw [hz43]; exact pj_maxI
      exact pj_X_rt rfl rfl ⟨_, rfl, iG41, kG41, ⟨by omega, by omega⟩, rfl⟩
  | false =>
    rw [pj_cF]
    have ub7 := pj_u_geF b7
    refine pj_X_of (fun r h => pj_R_icF rfl b7 h) ?_
    refine pj_X_of (fun r h => pj_R_to (G6, 50, [(4, .int y3), (3, .int y2), (0, .ref 6), (1, .int b), (2, .int c)], [.int (Int32.ofInt 1), .int (Int32.ofInt 1), .ref 33], 0, 0) 50 3 (fun _ => rfl) h) ?_
    refine pj_X_of (fun r h => pj_T_is iG6 rfl rfl (by omega) (by omega) h) ?_
    show pj_X _ _ (pj_wa G6 33 (Int32.ofInt 1).toInt.toNat (Int32.ofInt 1)) 51 [(4, .int y3), (3, .int y2), (0, .ref 6), (1, .int b), (2, .int c)] [] _
    obtain ⟨G44, hG44⟩ : ∃ H, H = pj_wa G6 33 (Int32.ofInt 1).toInt.toNat (Int32.ofInt 1) := ⟨_, rfl⟩
    have iG44 : pj_Inv G44 := by rw [hG44]; exact pj_Inv_wa iG6 rfl (fun q hq => by cases hq) (fun n hn => by cases hn)
    have kG44 : pj_kpt kc_101x G0 G44 := by rw [hG44]; exact pj_kpt_a kG6 rfl
    rw [← hG44]
    rw [pj_nm_e]
    refine pj_X_of (fun r h => pj_R_to (G44, 52, [(4, .int y3), (3, .int y2), (0, .ref 6), (1, .int b), (2, .int c)], [.ref 6], 0, 0) 52 2 (fun _ => rfl) h) ?_
    refine pj_X_of (fun r h => pj_T_gr iG44 rfl rfl rfl h) ?_
    refine pj_X_of (fun r h => pj_R_to (G44, 57, [(4, .int y3), (3, .int y2), (0, .ref 6), (1, .int b), (2, .int c)], [.ref 6, .int (Int32.ofInt 2), .ref 33], 0, 0) 57 3 (fun _ => rfl) h) ?_
    refine pj_X_of (fun r h => pj_T_gr iG44 rfl rfl rfl h) ?_
    refine pj_X_of (fun r h => pj_R_to (G44, 61, [(4, .int y3), (3, .int y2), (0, .ref 6), (1, .int b), (2, .int c)], [.int b, .ref 31, .int (Int32.ofInt 2), .ref 33], 0, 0) 61 2 (fun _ => rfl) h) ?_
    refine pj_X_of (fun r h => pj_T_il iG44 rfl rfl (by omega) (by omega) h) ?_
    show pj_X _ _ G44 62 [(4, .int y3), (3, .int y2), (0, .ref 6), (1, .int b), (2, .int c)] [.int (pj_ai G44 31 b.toInt.toNat), .int (Int32.ofInt 2), .ref 33] _
    obtain ⟨z45, hz45⟩ : ∃ z : Int32, z = pj_ai G44 31 b.toInt.toNat := ⟨_, rfl⟩
    rw [← hz45]
    rw [pj_nm_e]
    have ez45 : (pj_ai G44 31 b.toInt.toNat).toInt = z45.toInt := by rw [hz45]
    refine pj_X_of (fun r h => pj_T_is iG44 rfl rfl (by omega) (by omega) h) ?_
    show pj_X _ _ (pj_wa G44 33 (Int32.ofInt 2).toInt.toNat z45) 63 [(4, .int y3), (3, .int y2), (0, .ref 6), (1, .int b), (2, .int c)] [] _
    obtain ⟨G46, hG46⟩ : ∃ H, H = pj_wa G44 33 (Int32.ofInt 2).toInt.toNat z45 := ⟨_, rfl⟩
    have iG46 : pj_Inv G46 := by rw [hG46]; exact pj_Inv_wa iG44 rfl (fun q hq => by cases hq) (fun n hn => by cases hn)
    have kG46 : pj_kpt kc_101x G0 G46 := by rw [hG46]; exact pj_kpt_a kG44 rfl
    rw [← hG46]
    rw [pj_nm_e]
    refine pj_X_of (fun r h => pj_R_to (G46, 64, [(4, .int y3), (3, .int y2), (0, .ref 6), (1, .int b), (2, .int c)], [.ref 6], 0, 0) 64 2 (fun _ => rfl) h) ?_
    refine pj_X_of (fun r h => pj_T_gr iG46 rfl rfl rfl h) ?_
    refine pj_X_of (fun r h => pj_R_to (G46, 69, [(4, .int y3), (3, .int y2), (0, .ref 6), (1, .int b), (2, .int c)], [.ref 6, .int (Int32.ofInt 3), .ref 33], 0, 0) 69 3 (fun _ => rfl) h) ?_
    refine pj_X_of (fun r h => pj_T_gr iG46 rfl rfl rfl h) ?_
    refine pj_X_of (fun r h => pj_T_gr iG46 rfl rfl rfl h) ?_
    refine pj_X_of (fun r h => pj_R_to (G46, 76, [(4, .int y3), (3, .int y2), (0, .ref 6), (1, .int b), (2, .int c)], [.int b, .ref 24, .int (Int32.ofInt 3), .ref 33], 0, 0) 76 2 (fun _ => rfl) h) ?_
    refine pj_X_of (fun r h => pj_T_il iG46 rfl rfl (by omega) (by omega) h) ?_
    show pj_X _ _ G46 77 [(4, .int y3), (3, .int y2), (0, .ref 6), (1, .int b), (2, .int c)] [.int (pj_ai G46 24 b.toInt.toNat), .int (Int32.ofInt 3), .ref 33] _
    obtain ⟨z47, hz47⟩ : ∃ z : Int32, z = pj_ai G46 24 b.toInt.toNat := ⟨_, rfl⟩
    rw [← hz47]
    rw [pj_nm_e]
    have ez47 : (pj_ai G46 24 b.toInt.toNat).toInt = z47.toInt := by rw [hz47]
    refine pj_X_of (fun r h => pj_T_is iG46 rfl rfl (by omega) (by omega) h) ?_
    show pj_X _ _ (pj_wa G46 33 (Int32.ofInt 3).toInt.toNat z47) 78 [(4, .int y3), (3, .int y2), (0, .ref 6), (1, .int b), (2, .int c)] [] _
    obtain ⟨G48, hG48⟩ : ∃ H, H = pj_wa G46 33 (Int32.ofInt 3).toInt.toNat z47 := ⟨_, rfl⟩
    have iG48 : pj_Inv G48 := by rw [hG48]; exact pj_Inv_wa iG46 rfl (fun q hq => by cases hq) (fun n hn => by cases hn)
    have kG48 : pj_kpt kc_101x G0 G48 := by rw [hG48]; exact pj_kpt_a kG46 rfl
    rw [← hG48]
    rw [pj_nm_e]
    refine pj_X_of (fun r h => pj_R_to (G48, 79, [(4, .int y3), (3, .int y2), (0, .ref 6), (1, .int b), (2, .int c)], [.ref 6], 0, 0) 79 2 (fun _ => rfl) h) ?_
    refine pj_X_of (fun r h => pj_T_gr iG48 rfl rfl rfl h) ?_
    refine pj_X_of (fun r h => pj_R_to (G48, 85, [(4, .int y3), (3, .int y2), (0, .ref 6), (1, .int b), (2, .int c)], [.int (Int32.ofInt (-1)), .int c, .int (Int32.ofInt 4), .ref 33], 0, 0) 85 4 (fun _ => rfl) h) ?_
    cases b49 : pj_c1 .ne c (Int32.ofInt (-1)) with
    | true =>
      rw [pj_cT]
      have ub49 := pj_u_neT b49
      refine pj_X_of (fun r h => pj_R_icT 92 rfl rfl b49 h) ?_
      refine pj_X_of (fun r h => pj_R_to (G48, 93, [(4, .int y3), (3, .int y2), (0, .ref 6), (1, .int b), (2, .int c)], [.ref 6, .int (Int32.ofInt 4), .ref 33], 0, 0) 93 2 (fun _ => rfl) h) ?_
      refine pj_X_gm iG48 rfl rfl (fun q50 => ?_) (fun q50 => ?_)
      · rw [show pj_rb G48 6 0 7 = true from pj_rb_t q50, pj_cT]
        refine pj_X_of (fun r h => pj_T_gr iG48 rfl rfl rfl h) ?_
        refine pj_X_of (fun r h => pj_R_to (G48, 100, [(4, .int y3), (3, .int y2), (0, .ref 6), (1, .int b), (2, .int c)], [.int c, .ref 11, .int (Int32.ofInt 4), .ref 33], 0, 0) 100 2 (fun _ => rfl) h) ?_
        refine pj_X_of (fun r h => pj_T_il iG48 rfl rfl (by omega) (by omega) h) ?_
        show pj_X _ _ G48 101 [(4, .int y3), (3, .int y2), (0, .ref 6), (1, .int b), (2, .int c)] [.int (pj_ai G48 11 c.toInt.toNat), .int (Int32.ofInt 4), .ref 33] _
        obtain ⟨z51, hz51⟩ : ∃ z : Int32, z = pj_ai G48 11 c.toInt.toNat := ⟨_, rfl⟩
        rw [← hz51]
        rw [pj_nm_e]
        have ez51 : (pj_ai G48 11 c.toInt.toNat).toInt = z51.toInt := by rw [hz51]
        have fz51_0 : (0 : Int) ≤ z51.toInt ∧ z51.toInt ≤ 9 ∧ (z51.toInt ≤ 0 ∨ 0 ≤ z51.toInt) := by rw [hz51]; exact iG48.2.2.1 11 (10, 0, 9, 0, 0) rfl _ (by show _ < 10; omega)
        refine pj_X_of (fun r h => pj_T_is iG48 rfl rfl (by omega) (by omega) h) ?_
        show pj_X _ _ (pj_wa G48 33 (Int32.ofInt 4).toInt.toNat z51) 102 [(4, .int y3), (3, .int y2), (0, .ref 6), (1, .int b), (2, .int c)] [] _
        obtain ⟨G52, hG52⟩ : ∃ H, H = pj_wa G48 33 (Int32.ofInt 4).toInt.toNat z51 := ⟨_, rfl⟩
        have iG52 : pj_Inv G52 := by rw [hG52]; exact pj_Inv_wa iG48 rfl (fun q hq => by cases hq) (fun n hn => by cases hn)
        have kG52 : pj_kpt kc_101x G0 G52 := by rw [hG52]; exact pj_kpt_a kG48 rfl
        rw [← hG52]
        rw [pj_nm_e]
        refine pj_X_of (fun r h => pj_R_to (G52, 103, [(4, .int y3), (3, .int y2), (0, .ref 6), (1, .int b), (2, .int c)], [.ref 6], 0, 0) 103 2 (fun _ => rfl) h) ?_
        refine pj_X_of (fun r h => pj_T_gr iG52 rfl rfl rfl h) ?_
        refine pj_X_of (fun r h => pj_R_to (G52, 108, [(4, .int y3), (3, .int y2), (0, .ref 6), (1, .int b), (2, .int c)], [.int b, .int (Int32.ofInt 5), .ref 33], 0, 0) 108 3 (fun _ => rfl) h) ?_
        refine pj_X_of (fun r h => pj_T_is iG52 rfl rfl (by omega) (by omega) h) ?_
        show pj_X _ _ (pj_wa G52 33 (Int32.ofInt 5).toInt.toNat b) 109 [(4, .int y3), (3, .int y2), (0, .ref 6), (1, .int b), (2, .int c)] [] _
        obtain ⟨G53, hG53⟩ : ∃ H, H = pj_wa G52 33 (Int32.ofInt 5).toInt.toNat b := ⟨_, rfl⟩
        have iG53 : pj_Inv G53 := by rw [hG53]; exact pj_Inv_wa iG52 rfl (fun q hq => by cases hq) (fun n hn => by cases hn)
        have kG53 : pj_kpt kc_101x G0 G53 := by rw [hG53]; exact pj_kpt_a kG52 rfl
        rw [← hG53]
        rw [pj_nm_e]
        refine pj_X_of (fun r h => pj_R_to (G53, 110, [(4, .int y3), (3, .int y2), (0, .ref 6), (1, .int b), (2, .int c)], [.ref 6], 0, 0) 110 2 (fun _ => rfl) h) ?_
        refine pj_X_of (fun r h => pj_T_gr iG53 rfl rfl rfl h) ?_
        refine pj_X_of (fun r h => pj_R_to (G53, 116, [(4, .int y3), (3, .int y2), (0, .ref 6), (1, .int b), (2, .int c)], [.ref 6, .int ((Int8.ofInt 6).toInt32), .ref 33], 0, 0) 116 3 (fun _ => rfl) h) ?_
        refine pj_X_of (fun r h => pj_T_gr iG53 rfl rfl rfl h) ?_
        refine pj_X_of (fun r h => pj_T_gi iG53 rfl rfl h) ?_
        show pj_X _ _ G53 122 [(4, .int y3), (3, .int y2), (0, .ref 6), (1, .int b), (2, .int c)] [.int (pj_fi G53 21 7), .int ((Int8.ofInt 6).toInt32), .ref 33] _
        obtain ⟨y54, hy54⟩ : ∃ z : Int32, z = pj_fi G53 21 7 := ⟨_, rfl⟩
        rw [← hy54]
        rw [pj_nm_e]
        have ey54 : (pj_fi G53 21 7).toInt = y54.toInt := by rw [hy54]
        refine pj_X_of (fun r h => pj_R_to (G53, 124, [(4, .int y3), (3, .int y2), (0, .ref 6), (1, .int b), (2, .int c)], [.int ((Int8.ofInt 24).toInt32), .int y54, .int ((Int8.ofInt 6).toInt32), .ref 33], 0, 0) 124 2 (fun _ => rfl) h) ?_
        refine pj_X_of (fun r h => pj_R_rm rfl (pj_nz (by omega)) h) ?_
        show pj_X _ _ G53 125 [(4, .int y3), (3, .int y2), (0, .ref 6), (1, .int b), (2, .int c)] [.int (y54 - y54 / ((Int8.ofInt 24).toInt32) * ((Int8.ofInt 24).toInt32)), .int ((Int8.ofInt 6).toInt32), .ref 33] _
        obtain ⟨z55, hz55⟩ : ∃ z : Int32, z = y54 - y54 / ((Int8.ofInt 24).toInt32) * ((Int8.ofInt 24).toInt32) := ⟨_, rfl⟩
        rw [← hz55]
        rw [pj_nm_e]
        refine pj_X_of (fun r h => pj_T_is iG53 rfl rfl (by omega) (by omega) h) ?_
        show pj_X _ _ (pj_wa G53 33 ((Int8.ofInt 6).toInt32).toInt.toNat z55) 126 [(4, .int y3), (3, .int y2), (0, .ref 6), (1, .int b), (2, .int c)] [] _
        obtain ⟨G56, hG56⟩ : ∃ H, H = pj_wa G53 33 ((Int8.ofInt 6).toInt32).toInt.toNat z55 := ⟨_, rfl⟩
        have iG56 : pj_Inv G56 := by rw [hG56]; exact pj_Inv_wa iG53 rfl (fun q hq => by cases hq) (fun n hn => by cases hn)
        have kG56 : pj_kpt kc_101x G0 G56 := by rw [hG56]; exact pj_kpt_a kG53 rfl
        rw [← hG56]
        rw [pj_nm_e]
        refine pj_X_of (fun r h => pj_R_to (G56, 130, [(4, .int y3), (3, .int y2), (0, .ref 6), (1, .int b), (2, .int c)], [.ref 6, .int ((Int8.ofInt 99).toInt32), .int (Int32.ofInt 1)], 0, 0) 130 4 (fun _ => rfl) h) ?_
        refine pj_X_of (fun r h => pj_T_gr iG56 rfl rfl rfl h) ?_
        refine pj_X_of (fun r h => pj_R_to (G56, 134, [(4, .int y3), (3, .int y2), (0, .ref 6), (1, .int b), (2, .int c)], [.ref 6, .ref 27, .int ((Int8.ofInt 99).toInt32), .int (Int32.ofInt 1)], 0, 0) 134 2 (fun _ => rfl) h) ?_
        refine pj_X_of (fun r h => pj_T_gr iG56 rfl rfl rfl h) ?_
        refine pj_X_ca (vs := [.ref 27, .ref 33]) rfl (fun _ => rfl) ⟨Nat.le_of_ble_eq_true rfl, Nat.le_of_ble_eq_true rfl, pj_T_rcv iG56 rfl⟩ ⟨rfl, rfl⟩ (pj_Y_up (by decide) (ct_65x G56 iG56)) ?_
        rintro _ G58 ⟨y57, rfl, iG58, jG58, ry57, fy57⟩
        rw [← fy57, pj_bd_e]
        have kG58 : pj_kpt kc_101x G0 G58 := pj_kpt_t kG56 (pj_kpt_s jG58 rfl)
        show pj_X _ _ G58 140 [(4, .int y3), (3, .int y2), (0, .ref 6), (1, .int b), (2, .int c)] [.int y57, .int ((Int8.ofInt 99).toInt32), .int (Int32.ofInt 1)] _
        refine pj_X_of (fun r h => pj_R_mn (v := (if y57 < ((Int8.ofInt 99).toInt32) then y57 else ((Int8.ofInt 99).toInt32))) rfl rfl rfl (Nat.le_of_ble_eq_true rfl) h) ?_
        show pj_X _ _ G58 143 [(4, .int y3), (3, .int y2), (0, .ref 6), (1, .int b), (2, .int c)] [.int (if y57 < ((Int8.ofInt 99).toInt32) then y57 else ((Int8.ofInt 99).toInt32)), .int (Int32.ofInt 1)] _
        obtain ⟨z59, hz59⟩ : ∃ z : Int32, z = (if y57 < ((Int8.ofInt 99).toInt32) then y57 else ((Int8.ofInt 99).toInt32)) := ⟨_, rfl⟩
        rw [← hz59]
        rw [pj_nm_e]
        have fz59_0 : z59.toInt ≤ ((Int8.ofInt 99).toInt32).toInt ∧ z59.toInt ≤ y57.toInt ∧ (z59.toInt = ((Int8.ofInt 99).toInt32).toInt ∨ z59.toInt = y57.toInt) := by rw [hz59]; exact pj_minI
        refine pj_X_of (fun r h => pj_R_mx (v := (if (Int32.ofInt 1) < z59 then z59 else (Int32.ofInt 1))) rfl rfl rfl (Nat.le_of_ble_eq_true rfl) h) ?_
        show pj_X _ _ G58 146 [(4, .int y3), (3, .int y2), (0, .ref 6), (1, .int b), (2, .int c)] [.int (if (Int32.ofInt 1) < z59 then z59 else (Int32.ofInt 1))] _
        obtain ⟨z60, hz60⟩ : ∃ z : Int32, z = (if (Int32.ofInt 1) < z59 then z59 else (Int32.ofInt 1)) := ⟨_, rfl⟩
        rw [← hz60]
        rw [pj_nm_e]
        have fz60_0 : (Int32.ofInt 1).toInt ≤ z60.toInt ∧ z59.toInt ≤ z60.toInt ∧ (z60.toInt = (Int32.ofInt 1).toInt ∨ z60.toInt = z59.toInt) := by rw [hz60]; exact pj_maxI
        exact pj_X_rt rfl rfl ⟨_, rfl, iG58, kG58, ⟨by omega, by omega⟩, rfl⟩
      · rw [show pj_rb G48 6 0 7 = false from pj_rb_f q50 rfl, pj_cF]
        refine pj_X_of (fun r h => pj_T_gr iG48 rfl rfl rfl h) ?_
        refine pj_X_of (fun r h => pj_R_to (G48, 100, [(4, .int y3), (3, .int y2), (0, .ref 6), (1, .int b), (2, .int c)], [.int c, .ref 18, .int (Int32.ofInt 4), .ref 33], 0, 0) 100 2 (fun _ => rfl) h) ?_
        refine pj_X_of (fun r h => pj_T_il iG48 rfl rfl (by omega) (by omega) h) ?_
        show pj_X _ _ G48 101 [(4, .int y3), (3, .int y2), (0, .ref 6), (1, .int b), (2, .int c)] [.int (pj_ai G48 18 c.toInt.toNat), .int (Int32.ofInt 4), .ref 33] _
        obtain ⟨z61, hz61⟩ : ∃ z : Int32, z = pj_ai G48 18 c.toInt.toNat := ⟨_, rfl⟩
        rw [← hz61]
        rw [pj_nm_e]
        have ez61 : (pj_ai G48 18 c.toInt.toNat).toInt = z61.toInt := by rw [hz61]
        have fz61_0 : (0 : Int) ≤ z61.toInt ∧ z61.toInt ≤ 9 ∧ (z61.toInt ≤ 0 ∨ 0 ≤ z61.toInt) := by rw [hz61]; exact iG48.2.2.1 18 (10, 0, 9, 0, 0) rfl _ (by show _ < 10; omega)
        refine pj_X_of (fun r h => pj_T_is iG48 rfl rfl (by omega) (by omega) h) ?_
        show pj_X _ _ (pj_wa G48 33 (Int32.ofInt 4).toInt.toNat z61) 102 [(4, .int y3), (3, .int y2), (0, .ref 6), (1, .int b), (2, .int c)] [] _
        obtain ⟨G62, hG62⟩ : ∃ H, H = pj_wa G48 33 (Int32.ofInt 4).toInt.toNat z61 := ⟨_, rfl⟩
        have iG62 : pj_Inv G62 := by rw [hG62]; exact pj_Inv_wa iG48 rfl (fun q hq => by cases hq) (fun n hn => by cases hn)
        have kG62 : pj_kpt kc_101x G0 G62 := by rw [hG62]; exact pj_kpt_a kG48 rfl
        rw [← hG62]
        rw [pj_nm_e]
        refine pj_X_of (fun r h => pj_R_to (G62, 103, [(4, .int y3), (3, .int y2), (0, .ref 6), (1, .int b), (2, .int c)], [.ref 6], 0, 0) 103 2 (fun _ => rfl) h) ?_
        refine pj_X_of (fun r h => pj_T_gr iG62 rfl rfl rfl h) ?_
        refine pj_X_of (fun r h => pj_R_to (G62, 108, [(4, .int y3), (3, .int y2), (0, .ref 6), (1, .int b), (2, .int c)], [.int b, .int (Int32.ofInt 5), .ref 33], 0, 0) 108 3 (fun _ => rfl) h) ?_
        refine pj_X_of (fun r h => pj_T_is iG62 rfl rfl (by omega) (by omega) h) ?_
        show pj_X _ _ (pj_wa G62 33 (Int32.ofInt 5).toInt.toNat b) 109 [(4, .int y3), (3, .int y2), (0, .ref 6), (1, .int b), (2, .int c)] [] _
        obtain ⟨G63, hG63⟩ : ∃ H, H = pj_wa G62 33 (Int32.ofInt 5).toInt.toNat b := ⟨_, rfl⟩
        have iG63 : pj_Inv G63 := by rw [hG63]; exact pj_Inv_wa iG62 rfl (fun q hq => by cases hq) (fun n hn => by cases hn)
        have kG63 : pj_kpt kc_101x G0 G63 := by rw [hG63]; exact pj_kpt_a kG62 rfl
        rw [← hG63]
        rw [pj_nm_e]
        refine pj_X_of (fun r h => pj_R_to (G63, 110, [(4, .int y3), (3, .int y2), (0, .ref 6), (1, .int b), (2, .int c)], [.ref 6], 0, 0) 110 2 (fun _ => rfl) h) ?_
        refine pj_X_of (fun r h => pj_T_gr iG63 rfl rfl rfl h) ?_
        refine pj_X_of (fun r h => pj_R_to (G63, 116, [(4, .int y3), (3, .int y2), (0, .ref 6), (1, .int b), (2, .int c)], [.ref 6, .int ((Int8.ofInt 6).toInt32), .ref 33], 0, 0) 116 3 (fun _ => rfl) h) ?_
        refine pj_X_of (fun r h => pj_T_gr iG63 rfl rfl rfl h) ?_
        refine pj_X_of (fun r h => pj_T_gi iG63 rfl rfl h) ?_
        show pj_X _ _ G63 122 [(4, .int y3), (3, .int y2), (0, .ref 6), (1, .int b), (2, .int c)] [.int (pj_fi G63 21 7), .int ((Int8.ofInt 6).toInt32), .ref 33] _
        obtain ⟨y64, hy64⟩ : ∃ z : Int32, z = pj_fi G63 21 7 := ⟨_, rfl⟩
        rw [← hy64]
        rw [pj_nm_e]
        have ey64 : (pj_fi G63 21 7).toInt = y64.toInt := by rw [hy64]
        refine pj_X_of (fun r h => pj_R_to (G63, 124, [(4, .int y3), (3, .int y2), (0, .ref 6), (1, .int b), (2, .int c)], [.int ((Int8.ofInt 24).toInt32), .int y64, .int ((Int8.ofInt 6).toInt32), .ref 33], 0, 0) 124 2 (fun _ => rfl) h) ?_
        refine pj_X_of (fun r h => pj_R_rm rfl (pj_nz (by omega)) h) ?_
        show pj_X _ _ G63 125 [(4, .int y3), (3, .int y2), (0, .ref 6), (1, .int b), (2, .int c)] [.int (y64 - y64 / ((Int8.ofInt 24).toInt32) * ((Int8.ofInt 24).toInt32)), .int ((Int8.ofInt 6).toInt32), .ref 33] _
        obtain ⟨z65, hz65⟩ : ∃ z : Int32, z = y64 - y64 / ((Int8.ofInt 24).toInt32) * ((Int8.ofInt 24).toInt32) := ⟨_, rfl⟩
        rw [← hz65]
        rw [pj_nm_e]
        refine pj_X_of (fun r h => pj_T_is iG63 rfl rfl (by omega) (by omega) h) ?_
        show pj_X _ _ (pj_wa G63 33 ((Int8.ofInt 6).toInt32).toInt.toNat z65) 126 [(4, .int y3), (3, .int y2), (0, .ref 6), (1, .int b), (2, .int c)] [] _
        obtain ⟨G66, hG66⟩ : ∃ H, H = pj_wa G63 33 ((Int8.ofInt 6).toInt32).toInt.toNat z65 := ⟨_, rfl⟩
        have iG66 : pj_Inv G66 := by rw [hG66]; exact pj_Inv_wa iG63 rfl (fun q hq => by cases hq) (fun n hn => by cases hn)
        have kG66 : pj_kpt kc_101x G0 G66 := by rw [hG66]; exact pj_kpt_a kG63 rfl
        rw [← hG66]
        rw [pj_nm_e]
        refine pj_X_of (fun r h => pj_R_to (G66, 130, [(4, .int y3), (3, .int y2), (0, .ref 6), (1, .int b), (2, .int c)], [.ref 6, .int ((Int8.ofInt 99).toInt32), .int (Int32.ofInt 1)], 0, 0) 130 4 (fun _ => rfl) h) ?_
        refine pj_X_of (fun r h => pj_T_gr iG66 rfl rfl rfl h) ?_
        refine pj_X_of (fun r h => pj_R_to (G66, 134, [(4, .int y3), (3, .int y2), (0, .ref 6), (1, .int b), (2, .int c)], [.ref 6, .ref 27, .int ((Int8.ofInt 99).toInt32), .int (Int32.ofInt 1)], 0, 0) 134 2 (fun _ => rfl) h) ?_
        refine pj_X_of (fun r h => pj_T_gr iG66 rfl rfl rfl h) ?_
        refine pj_X_ca (vs := [.ref 27, .ref 33]) rfl (fun _ => rfl) ⟨Nat.le_of_ble_eq_true rfl, Nat.le_of_ble_eq_true rfl, pj_T_rcv iG66 rfl⟩ ⟨rfl, rfl⟩ (pj_Y_up (by decide) (ct_65x G66 iG66)) ?_
        rintro _ G68 ⟨y67, rfl, iG68, jG68, ry67, fy67⟩
        rw [← fy67, pj_bd_e]
        have kG68 : pj_kpt kc_101x G0 G68 := pj_kpt_t kG66 (pj_kpt_s jG68 rfl)
        show pj_X _ _ G68 140 [(4, .int y3), (3, .int y2), (0, .ref 6), (1, .int b), (2, .int c)] [.int y67, .int ((Int8.ofInt 99).toInt32), .int (Int32.ofInt 1)] _
        refine pj_X_of (fun r h => pj_R_mn (v := (if y67 < ((Int8.ofInt 99).toInt32) then y67 else ((Int8.ofInt 99).toInt32))) rfl rfl rfl (Nat.le_of_ble_eq_true rfl) h) ?_
        show pj_X _ _ G68 143 [(4, .int y3), (3, .int y2), (0, .ref 6), (1, .int b), (2, .int c)] [.int (if y67 < ((Int8.ofInt 99).toInt32) then y67 else ((Int8.ofInt 99).toInt32)), .int (Int32.ofInt 1)] _
        obtain ⟨z69, hz69⟩ : ∃ z : Int32, z = (if y67 < ((Int8.ofInt 99).toInt32) then y67 else ((Int8.ofInt 99).toInt32)) := ⟨_, rfl⟩
        rw [← hz69]
        rw [pj_nm_e]
        have fz69_0 : z69.toInt ≤ ((Int8.ofInt 99).toInt32).toInt ∧ z69.toInt ≤ y67.toInt ∧ (z69.toInt = ((Int8.ofInt 99).toInt32).toInt ∨ z69.toInt = y67.toInt) := by rw [hz69]; exact pj_minI
        refine pj_X_of (fun r h => pj_R_mx (v := (if (Int32.ofInt 1) < z69 then z69 else (Int32.ofInt 1))) rfl rfl rfl (Nat.le_of_ble_eq_true rfl) h) ?_
        show pj_X _ _ G68 146 [(4, .int y3), (3, .int y2), (0, .ref 6), (1, .int b), (2, .int c)] [.int (if (Int32.ofInt 1) < z69 then z69 else (Int32.ofInt 1))] _
        obtain ⟨z70, hz70⟩ : ∃ z : Int32, z = (if (Int32.ofInt 1) < z69 then z69 else (Int32.ofInt 1)) := ⟨_, rfl⟩
        rw [← hz70]
        rw [pj_nm_e]
        have fz70_0 : (Int32.ofInt 1).toInt ≤ z70.toInt ∧ z69.toInt ≤ z70.toInt ∧ (z70.toInt = (Int32.ofInt 1).toInt ∨ z70.toInt = z69.toInt) := by rw [hz70]; exact pj_maxI
        exact pj_X_rt rfl rfl ⟨_, rfl, iG68, kG68, ⟨by omega, by omega⟩, rfl⟩
    | false =>
      rw [pj_cF]
      have ub49 := pj_u_neF b49
      refine pj_X_of (fun r h => pj_R_icF rfl b49 h) ?_
      refine pj_X_of (fun r h => pj_R_to (G48, 101, [(4, .int y3), (3, .int y2), (0, .ref 6), (1, .int b), (2, .int c)], [.int (Int32.ofInt 0), .int (Int32.ofInt 4), .ref 33], 0, 0) 101 3 (fun _ => rfl) h) ?_
      refine pj_X_of (fun r h => pj_T_is iG48 rfl rfl (by omega) (by omega) h) ?_
      show pj_X _ _ (pj_wa G48 33 (Int32.ofInt 4).toInt.toNat (Int32.ofInt 0)) 102 [(4, .int y3), (3, .int y2), (0, .ref 6), (1, .int b), (2, .int c)] [] _
      obtain ⟨G71, hG71⟩ : ∃ H, H = pj_wa G48 33 (Int32.ofInt 4).toInt.toNat (Int32.ofInt 0) := ⟨_, rfl⟩
      have iG71 : pj_Inv G71 := by rw [hG71]; exact pj_Inv_wa iG48 rfl (fun q hq => by cases hq) (fun n hn => by cases hn)
      have kG71 : pj_kpt kc_101x G0 G71 := by rw [hG71]; exact pj_kpt_a kG48 rfl
      rw [← hG71]
      rw [pj_nm_e]
      refine pj_X_of (fun r h => pj_R_to (G71, 103, [(4, .int y3), (3, .int y2), (0, .ref 6), (1, .int b), (2, .int c)], [.ref 6], 0, 0) 103 2 (fun _ => rfl) h) ?_
      refine pj_X_of (fun r h => pj_T_gr iG71 rfl rfl rfl h) ?_
      refine pj_X_of (fun r h => pj_R_to (G71, 108, [(4, .int y3), (3, .int y2), (0, .ref 6), (1, .int b), (2, .int c)], [.int b, .int (Int32.ofInt 5), .ref 33], 0, 0) 108 3 (fun _ => rfl) h) ?_
      refine pj_X_of (fun r h => pj_T_is iG71 rfl rfl (by omega) (by omega) h) ?_
      show pj_X _ _ (pj_wa G71 33 (Int32.ofInt 5).toInt.toNat b) 109 [(4, .int y3), (3, .int y2), (0, .ref 6), (1, .int b), (2, .int c)] [] _
      obtain ⟨G72, hG72⟩ : ∃ H, H = pj_wa G71 33 (Int32.ofInt 5).toInt.toNat b := ⟨_, rfl⟩
      have iG72 : pj_Inv G72 := by rw [hG72]; exact pj_Inv_wa iG71 rfl (fun q hq => by cases hq) (fun n hn => by cases hn)
      have kG72 : pj_kpt kc_101x G0 G72 := by rw [hG72]; exact pj_kpt_a kG71 rfl
      rw [← hG72]
      rw [pj_nm_e]
      refine pj_X_of (fun r h => pj_R_to (G72, 110, [(4, .int y3), (3, .int y2), (0, .ref 6), (1, .int b), (2, .int c)], [.ref 6], 0, 0) 110 2 (fun _ => rfl) h) ?_
      refine pj_X_of (fun r h => pj_T_gr iG72 rfl rfl rfl h) ?_
      refine pj_X_of (fun r h => pj_R_to (G72, 116, [(4, .int y3), (3, .int y2), (0, .ref 6), (1, .int b), (2, .int c)], [.ref 6, .int ((Int8.ofInt 6).toInt32), .ref 33], 0, 0) 116 3 (fun _ => rfl) h) ?_
      refine pj_X_of (fun r h => pj_T_gr iG72 rfl rfl rfl h) ?_
      refine pj_X_of (fun r h => pj_T_gi iG72 rfl rfl h) ?_
      show pj_X _ _ G72 122 [(4, .int y3), (3, .int y2), (0, .ref 6), (1, .int b), (2, .int c)] [.int (pj_fi G72 21 7), .int ((Int8.ofInt 6).toInt32), .ref 33] _
      obtain ⟨y73, hy73⟩ : ∃ z : Int32, z = pj_fi G72 21 7 := ⟨_, rfl⟩
      rw [← hy73]
      rw [pj_nm_e]
      have ey73 : (pj_fi G72 21 7).toInt = y73.toInt := by rw [hy73]
      refine pj_X_of (fun r h => pj_R_to (G72, 124, [(4, .int y3), (3, .int y2), (0, .ref 6), (1, .int b), (2, .int c)], [.int ((Int8.ofInt 24).toInt32), .int y73, .int ((Int8.ofInt 6).toInt32), .ref 33], 0, 0) 124 2 (fun _ => rfl) h) ?_
      refine pj_X_of (fun r h => pj_R_rm rfl (pj_nz (by omega)) h) ?_
      show pj_X _ _ G72 125 [(4, .int y3), (3, .int y2), (0, .ref 6), (1, .int b), (2, .int c)] [.int (y73 - y73 / ((Int8.ofInt 24).toInt32) * ((Int8.ofInt 24).toInt32)), .int ((Int8.ofInt 6).toInt32), .ref 33] _
      obtain ⟨z74, hz74⟩ : ∃ z : Int32, z = y73 - y73 / ((Int8.ofInt 24).toInt32) * ((Int8.ofInt 24).toInt32) := ⟨_, rfl⟩
      rw [← hz74]
      rw [pj_nm_e]
      refine pj_X_of (fun r h => pj_T_is iG72 rfl rfl (by omega) (by omega) h) ?_
      show pj_X _ _ (pj_wa G72 33 ((Int8.ofInt 6).toInt32).toInt.toNat z74) 126 [(4, .int y3), (3, .int y2), (0, .ref 6), (1, .int b), (2, .int c)] [] _
      obtain ⟨G75, hG75⟩ : ∃ H, H = pj_wa G72 33 ((Int8.ofInt 6).toInt32).toInt.toNat z74 := ⟨_, rfl⟩
      have iG75 : pj_Inv G75 := by rw [hG75]; exact pj_Inv_wa iG72 rfl (fun q hq => by cases hq) (fun n hn => by cases hn)
      have kG75 : pj_kpt kc_101x G0 G75 := by rw [hG75]; exact pj_kpt_a kG72 rfl
      rw [← hG75]
      rw [pj_nm_e]
      refine pj_X_of (fun r h => pj_R_to (G75, 130, [(4, .int y3), (3, .int y2), (0, .ref 6), (1, .int b), (2, .int c)], [.ref 6, .int ((Int8.ofInt 99).toInt32), .int (Int32.ofInt 1)], 0, 0) 130 4 (fun _ => rfl) h) ?_
      refine pj_X_of (fun r h => pj_T_gr iG75 rfl rfl rfl h) ?_
      refine pj_X_of (fun r h => pj_R_to (G75, 134, [(4, .int y3), (3, .int y2), (0, .ref 6), (1, .int b), (2, .int c)], [.ref 6, .ref 27, .int ((Int8.ofInt 99).toInt32), .int (Int32.ofInt 1)], 0, 0) 134 2 (fun _ => rfl) h) ?_
      refine pj_X_of (fun r h => pj_T_gr iG75 rfl rfl rfl h) ?_
      refine pj_X_ca (vs := [.ref 27, .ref 33]) rfl (fun _ => rfl) ⟨Nat.le_of_ble_eq_true rfl, Nat.le_of_ble_eq_true rfl, pj_T_rcv iG75 rfl⟩ ⟨rfl, rfl⟩ (pj_Y_up (by decide) (ct_65x G75 iG75)) ?_
      rintro _ G77 ⟨y76, rfl, iG77, jG77, ry76, fy76⟩
      rw [← fy76, pj_bd_e]
      have kG77 : pj_kpt kc_101x G0 G77 := pj_kpt_t kG75 (pj_kpt_s jG77 rfl)
      show pj_X _ _ G77 140 [(4, .int y3), (3, .int y2), (0, .ref 6), (1, .int b), (2, .int c)] [.int y76, .int ((Int8.ofInt 99).toInt32), .int (Int32.ofInt 1)] _
      refine pj_X_of (fun r h => pj_R_mn (v := (if y76 < ((Int8.ofInt 99).toInt32) then y76 else ((Int8.ofInt 99).toInt32))) rfl rfl rfl (Nat.le_of_ble_eq_true rfl) h) ?_
      show pj_X _ _ G77 143 [(4, .int y3), (3, .int y2), (0, .ref 6), (1, .int b), (2, .int c)] [.int (if y76 < ((Int8.ofInt 99).toInt32) then y76 else ((Int8.ofInt 99).toInt32)), .int (Int32.ofInt 1)] _
      obtain ⟨z78, hz78⟩ : ∃ z : Int32, z = (if y76 < ((Int8.ofInt 99).toInt32) then y76 else ((Int8.ofInt 99).toInt32)) := ⟨_, rfl⟩
      rw [← hz78]
      rw [pj_nm_e]
      have fz78_0 : z78.toInt ≤ ((Int8.ofInt 99).toInt32).toInt ∧ z78.toInt ≤ y76.toInt ∧ (z78.toInt = ((Int8.ofInt 99).toInt32).toInt ∨ z78.toInt = y76.toInt) := by rw [hz78]; exact pj_minI
      refine pj_X_of (fun r h => pj_R_mx (v := (if (Int32.ofInt 1) < z78 then z78 else (Int32.ofInt 1))) rfl rfl rfl (Nat.le_of_ble_eq_true rfl) h) ?_
      show pj_X _ _ G77 146 [(4, .int y3), (3, .int y2), (0, .ref 6), (1, .int b), (2, .int c)] [.int (if (Int32.ofInt 1) < z78 then z78 else (Int32.ofInt 1))] _
      obtain ⟨z79, hz79⟩ : ∃ z : Int32, z = (if (Int32.ofInt 1) < z78 then z78 else (Int32.ofInt 1)) := ⟨_, rfl⟩
      rw [← hz79]
      rw [pj_nm_e]
      have fz79_0 : (Int32.ofInt 1).toInt ≤ z79.toInt ∧ z78.toInt ≤ z79.toInt ∧ (z79.toInt = (Int32.ofInt 1).toInt ∨ z79.toInt = z78.toInt) := by rw [hz79]; exact pj_maxI
      exact pj_X_rt rfl rfl ⟨_, rfl, iG77, kG77, ⟨by omega, by omega⟩, rfl⟩
theorem fr_101x (G0 : pj_G) (hI : pj_Inv G0) (b : Int32) (c : Int32) (rb : (0 : Int) ≤ b.toInt ∧ b.toInt ≤ 5) (rc : (-1 : Int) ≤ c.toInt ∧ c.toInt ≤ 9) : pj_Inv (F_101x G0 b c).2 ∧ pj_kpt kc_101x G0 (F_101x G0 b c).2 ∧ ((1 : Int) ≤ (F_101x G0 b c).1.toInt ∧ (F_101x G0 b c).1.toInt ≤ 99) := by
  obtain ⟨v, G', -, y, -, i, j, r, e⟩ := ct_101x G0 hI b c rb rc
  rw [← e]
  exact ⟨i, j, r⟩
def kc_99x : pj_KT := ([], [30, 33], [30, 33])
noncomputable def F_99x (G0 : pj_G) (b : Int32) (c : Int32) : Int32 × pj_G := pj_nm (F_95x G0 b) (fun y1 => cond (pj_c1 .eq y1 0) ((Int32.ofInt (-1), G0)) (cond (pj_c1 .eq c (Int32.ofInt (-1))) (pj_nm (pj_ai G0 23 b.toInt.toNat) (fun z4 => cond (pj_c1 .gt z4 0) (((Int8.ofInt (-2)).toInt32, G0)) (pj_nm (pj_ai G0 22 b.toInt.toNat) (fun z6 => cond (pj_c1 .ne z6 c) (pj_bd (F_101x G0 b c) (fun y8 G9 => (y8, G9))) (((Int8.ofInt (-2)).toInt32, G0)))))) (pj_nm (F_94x G0 c) (fun y10 => cond (pj_c1 .ne y10 0) (pj_nm (pj_ai G0 23 b.toInt.toNat) (fun z12 => cond (pj_c1 .gt z12 0) (((Int8.ofInt (-2)).toInt32, G0)) (pj_nm (pj_ai G0 22 b.toInt.toNat) (fun z14 => cond (pj_c1 .ne z14 c) (pj_nm (pj_ai G0 31 b.toInt.toNat) (fun z16 => cond (pj_rb G0 6 0 7) (pj_nm (pj_ai G0 11 c.toInt.toNat) (fun z18 => cond (pj_c1 .ge z16 z18) (pj_nm (F_72_21x G0 c) (fun y20 => cond (pj_c1 .ne y20 0) (pj_bd (F_101x G0 b c) (fun y22 G23 => (y22, G23))) (((Int8.ofInt (-4)).toInt32, G0)))) (((Int8.ofInt (-3)).toInt32, G0)))) (pj_nm (pj_ai G0 18 c.toInt.toNat) (fun z24 => cond (pj_c1 .ge z16 z24) (pj_nm (F_72_21x G0 c) (fun y26 => cond (pj_c1 .ne y26 0) (pj_bd (F_101x G0 b c) (fun y28 G29 => (y28, G29))) (((Int8.ofInt (-4)).toInt32, G0)))) (((Int8.ofInt (-3)).toInt32, G0)))))) (((Int8.ofInt (-2)).toInt32, G0)))))) ((Int32.ofInt (-1), G0))))))
theorem F_99x_e (G0 : pj_G) (b : Int32) (c : Int32) : F_99x G0 b c = pj_nm (F_95x G0 b) (fun y1 => cond (pj_c1 .eq y1 0) ((Int32.ofInt (-1), G0)) (cond (pj_c1 .eq c (Int32.ofInt (-1))) (pj_nm (pj_ai G0 23 b.toInt.toNat) (fun z4 => cond (pj_c1 .gt z4 0) (((Int8.ofInt (-2)).toInt32, G0)) (pj_nm (pj_ai G0 22 b.toInt.toNat) (fun z6 => cond (pj_c1 .ne z6 c) (pj_bd (F_101x G0 b c) (fun y8 G9 => (y8, G9))) (((Int8.ofInt (-2)).toInt32, G0)))))) (pj_nm (F_94x G0 c) (fun y10 => cond (pj_c1 .ne y10 0) (pj_nm (pj_ai G0 23 b.toInt.toNat) (fun z12 => cond (pj_c1 .gt z12 0) (((Int8.ofInt (-2)).toInt32, G0)) (pj_nm (pj_ai G0 22 b.toInt.toNat) (fun z14 => cond (pj_c1 .ne z14 c) (pj_nm (pj_ai G0 31 b.toInt.toNat) (fun z16 => cond (pj_rb G0 6 0 7) (pj_nm (pj_ai G0 11 c.toInt.toNat) (fun z18 => cond (pj_c1 .ge z16 z18) (pj_nm (F_72_21x G0 c) (fun y20 => cond (pj_c1 .ne y20 0) (pj_bd (F_101x G0 b c) (fun y22 G23 => (y22, G23))) (((Int8.ofInt (-4)).toInt32, G0)))) (((Int8.ofInt (-3)).toInt32, G0)))) (pj_nm (pj_ai G0 18 c.toInt.toNat) (fun z24 => cond (pj_c1 .ge z16 z24) (pj_nm (F_72_21x G0 c) (fun y26 => cond (pj_c1 .ne y26 0) (pj_bd (F_101x G0 b c) (fun y28 G29 => (y28, G29))) (((Int8.ofInt (-4)).toInt32, G0)))) (((Int8.ofInt (-3)).toInt32, G0)))))) (((Int8.ofInt (-2)).toInt32, G0)))))) ((Int32.ofInt (-1), G0)))))) := rfl
theorem ct_99x (G0 : pj_G) (hI : pj_Inv G0) (b : Int32) (c : Int32) : pj_Y 4 99 [.ref 6, .int b, .int c] G0 (fun v' G' => ∃ y : Int32, v' = some (.int y) ∧ pj_Inv G' ∧ pj_kpt kc_99x G0 G' ∧ ((-4 : Int) ≤ y.toInt ∧ y.toInt ≤ 99) ∧ (0 < y.toInt → 0 ≤ b.toInt ∧ b.toInt ≤ 5 ∧ -1 ≤ c.toInt ∧ c.toInt ≤ 9) ∧ ((y, G') = F_99x G0 b c)) := by
  have c0_ : ((Int8.ofInt (-2)).toInt32).toInt = -2 := by decide
  have c1_ : ((Int8.ofInt (-3)).toInt32).toInt = -3 := by decide
  have c2_ : ((Int8.ofInt (-4)).toInt32).toInt = -4 := by decide
  have c3_ : (Int32.ofInt (-1)).toInt = -1 := by decide
  refine pj_Y_X (M := pj_m99) rfl rfl (Nat.le_of_ble_eq_true rfl) ?_
  have hK : pj_kpt kc_99x G0 G0 := pj_kpt_r _ _
  show pj_X _ _ G0 0 [(0, .ref 6), (1, .int b), (2, .int c)] [] _
  rw [F_99x_e]
  refine pj_X_of (fun r h => pj_R_to (G0, 2, [(0, .ref 6), (1, .int b), (2, .int c)], [.int b, .ref 6], 0, 0) 2 3 (fun _ => rfl) h) ?_
  refine pj_X_ca (vs := [.ref 6, .int b]) rfl (fun _ => rfl) ⟨Nat.le_of_ble_eq_true rfl, Nat.le_of_ble_eq_true rfl, pj_T_rcv hI rfl⟩ ⟨rfl, rfl⟩ (pj_Y_up (by decide) (ct_95x G0 hI b)) ?_
  rintro _ _ ⟨y1, rfl, rfl, ry1, ey1, fy1⟩
  rw [← fy1, pj_nm_e]
  show pj_X _ _ G0 5 [(0, .ref 6), (1, .int b), (2, .int c)] [.int y1] _
  cases b2 : pj_c1 .eq y1 0 with
  | true =>
    rw [pj_cT]
    have ub2 := pj_u0_eqT b2
    refine pj_X_of (fun r h => pj_R_ifT 21 rfl rfl b2 h) ?_
    refine pj_X_of (fun r h => pj_R_to (G0, 22, [(0, .ref 6), (1, .int b), (2, .int c)], [.int (Int32.ofInt (-1))], 0, 0) 22 2 (fun _ => rfl) h) ?_
    exact pj_X_rt rfl rfl ⟨_, rfl, hI, hK, ⟨by omega, by omega⟩, by omega, rfl⟩
  | false =>
    rw [pj_cF]
    have ub2 := pj_u0_eqF b2
    refine pj_X_of (fun r h => pj_R_ifF rfl b2 h) ?_
    refine pj_X_of (fun r h => pj_R_to (G0, 10, [(0, .ref 6), (1, .int b), (2, .int c)], [.int (Int32.ofInt (-1)), .int c], 0, 0) 10 3 (fun _ => rfl) h) ?_
    cases b3 : pj_c1 .eq c (Int32.ofInt (-1)) with
    | true =>
      rw [pj_cT]
      have ub3 := pj_u_eqT b3
      refine pj_X_of (fun r h => pj_R_icT 23 rfl rfl b3 h) ?_
      refine pj_X_of (fun r h => pj_R_to (G0, 24, [(0, .ref 6), (1, .int b), (2, .int c)], [.ref 6], 0, 0) 24 2 (fun _ => rfl) h) ?_
      refine pj_X_of (fun r h => pj_T_gr hI rfl rfl rfl h) ?_
      refine pj_X_of (fun r h => pj_T_gr hI rfl rfl rfl h) ?_
      refine pj_X_of (fun r h => pj_R_to (G0, 31, [(0, .ref 6), (1, .int b), (2, .int c)], [.int b, .ref 23], 0, 0) 31 2 (fun _ => rfl) h) ?_
      refine pj_X_of (fun r h => pj_T_il hI rfl rfl (by omega) (by omega) h) ?_
      show pj_X _ _ G0 32 [(0, .ref 6), (1, .int b), (2, .int c)] [.int (pj_ai G0 23 b.toInt.toNat)] _
      obtain ⟨z4, hz4⟩ : ∃ z : Int32, z = pj_ai G0 23 b.toInt.toNat := ⟨_, rfl⟩
      rw [← hz4]
      rw [pj_nm_e]
      have ez4 : (pj_ai G0 23 b.toInt.toNat).toInt = z4.toInt := by rw [hz4]
      cases b5 : pj_c1 .gt z4 0 with
      | true =>
        rw [pj_cT]
        have ub5 := pj_u0_gtT b5
        refine pj_X_of (fun r h => pj_R_ifT 48 rfl rfl b5 h) ?_
        refine pj_X_of (fun r h => pj_R_to (G0, 50, [(0, .ref 6), (1, .int b), (2, .int c)], [.int ((Int8.ofInt (-2)).toInt32)], 0, 0) 50 2 (fun _ => rfl) h) ?_
        exact pj_X_rt rfl rfl ⟨_, rfl, hI, hK, ⟨by omega, by omega⟩, by omega, rfl⟩
      | false =>
        rw [pj_cF]
        have ub5 := pj_u0_gtF b5
        refine pj_X_of (fun r h => pj_R_ifF rfl b5 h) ?_
        refine pj_X_of (fun r h => pj_R_to (G0, 36, [(0, .ref 6), (1, .int b), (2, .int c)], [.ref 6], 0, 0) 36 2 (fun _ => rfl) h) ?_
        refine pj_X_of (fun r h => pj_T_gr hI rfl rfl rfl h) ?_
        refine pj_X_of (fun r h => pj_T_gr hI rfl rfl rfl h) ?_
        refine pj_X_of (fun r h => pj_R_to (G0, 43, [(0, .ref 6), (1, .int b), (2, .int c)], [.int b, .ref 22], 0, 0) 43 2 (fun _ => rfl) h) ?_
        refine pj_X_of (fun r h => pj_T_il hI rfl rfl (by omega) (by omega) h) ?_
        show pj_X _ _ G0 44 [(0, .ref 6), (1, .int b), (2, .int c)] [.int (pj_ai G0 22 b.toInt.toNat)] _
        obtain ⟨z6, hz6⟩ : ∃ z : Int32, z = pj_ai G0 22 b.toInt.toNat := ⟨_, rfl⟩
        rw [← hz6]
        rw [pj_nm_e]
        have ez6 : (pj_ai G0 22 b.toInt.toNat).toInt = z6.toInt := by rw [hz6]
        have fz6_0 : (-1 : Int) ≤ z6.toInt ∧ z6.toInt ≤ 9 ∧ (z6.toInt ≤ -1 ∨ -1 ≤ z6.toInt) := by rw [hz6]; exact hI.2.2.1 22 (6, -1, 9, -1, -1) rfl _ (by show _ < 6; omega)
        refine pj_X_of (fun r h => pj_R_to (G0, 45, [(0, .ref 6), (1, .int b), (2, .int c)], [.int c, .int z6], 0, 0) 45 2 (fun _ => rfl) h) ?_
        cases b7 : pj_c1 .ne z6 c with
        | true =>
          rw [pj_cT]
          have ub7 := pj_u_neT b7
          refine pj_X_of (fun r h => pj_R_icT 51 rfl rfl b7 h) ?_
          refine pj_X_of (fun r h => pj_R_to (G0, 53, [(0, .ref 6), (1, .int b), (2, .int c)], [.int (Int32.ofInt (-1)), .int c], 0, 0) 53 3 (fun _ => rfl) h) ?_
          refine pj_X_of (fun r h => pj_R_icT 77 rfl rfl (pj_b_eqT (by omega)) h) ?_
          refine pj_X_of (fun r h => pj_R_to (G0, 79, [(0, .ref 6), (1, .int b), (2, .int c)], [.int (Int32.ofInt (-1)), .int c], 0, 0) 79 3 (fun _ => rfl) h) ?_
          refine pj_X_of (fun r h => pj_R_icT 96 rfl rfl (pj_b_eqT (by omega)) h) ?_
          refine pj_X_of (fun r h => pj_R_to (G0, 99, [(0, .ref 6), (1, .int b), (2, .int c)], [.int c, .int b, .ref 6], 0, 0) 99 4 (fun _ => rfl) h) ?_
          refine pj_X_ca (vs := [.ref 6, .int b, .int c]) rfl (fun _ => rfl) ⟨Nat.le_of_ble_eq_true rfl, Nat.le_of_ble_eq_true rfl, pj_T_rcv hI rfl⟩ ⟨rfl, rfl⟩ (pj_Y_up (by decide) (ct_101x G0 hI b c ⟨by omega, by omega⟩ ⟨by omega, by omega⟩)) ?_
          rintro _ G9 ⟨y8, rfl, iG9, jG9, ry8, fy8⟩
          rw [← fy8, pj_bd_e]
          have kG9 : pj_kpt kc_99x G0 G9 := pj_kpt_t hK (pj_kpt_s jG9 rfl)
          show pj_X _ _ G9 102 [(0, .ref 6), (1, .int b), (2, .int c)] [.int y8] _
          exact pj_X_rt rfl rfl ⟨_, rfl, iG9, kG9, ⟨by omega, by omega⟩, by omega, rfl⟩
        | false =>
          rw [pj_cF]
          have ub7 := pj_u_neF b7
          refine pj_X_of (fun r h => pj_R_icF rfl b7 h) ?_
          refine pj_X_of (fun r h => pj_R_to (G0, 50, [(0, .ref 6), (1, .int b), (2, .int c)], [.int ((Int8.ofInt (-2)).toInt32)], 0, 0) 50 2 (fun _ => rfl) h) ?_
          exact pj_X_rt rfl rfl ⟨_, rfl, hI, hK, ⟨by omega, by omega⟩, by omega, rfl⟩
    | false =>
      rw [pj_cF]
      have ub3 := pj_u_eqF b3
      refine pj_X_of (fun r h => pj_R_icF rfl b3 h) ?_
      refine pj_X_of (fun r h => pj_R_to (G0, 15, [(0, .ref 6), (1, .int b), (2, .int c)], [.int c, .ref 6], 0, 0) 15 3 (fun _ => rfl) h) ?_
      refine pj_X_ca (vs := [.ref 6, .int c]) rfl (fun _ => rfl) ⟨Nat.le_of_ble_eq_true rfl, Nat.le_of_ble_eq_true rfl, pj_T_rcv hI rfl⟩ ⟨rfl, rfl⟩ (pj_Y_up (by decide) (ct_94x G0 hI c)) ?_
      rintro _ _ ⟨y10, rfl, rfl, ry10, ey10, fy10⟩
      rw [← fy10, pj_nm_e]
      show pj_X _ _ G0 18 [(0, .ref 6), (1, .int b), (2, .int c)] [.int y10] _
      cases b11 : pj_c1 .ne y10 0 with
      | true =>
        rw [pj_cT]
        have ub11 := pj_u0_neT b11
        refine pj_X_of (fun r h => pj_R_ifT 23 rfl rfl b11 h) ?_
        refine pj_X_of (fun r h => pj_R_to (G0, 24, [(0, .ref 6), (1, .int b), (2, .int c)], [.ref 6], 0, 0) 24 2 (fun _ => rfl) h) ?_
        refine pj_X_of (fun r h => pj_T_gr hI rfl rfl rfl h) ?_
        refine pj_X_of (fun r h => pj_T_gr hI rfl rfl rfl h) ?_
        refine pj_X_of (fun r h => pj_R_to (G0, 31, [(0, .ref 6), (1, .int b), (2, .int c)], [.int b, .ref 23], 0, 0) 31 2 (fun _ => rfl) h) ?_
        refine pj_X_of (fun r h => pj_T_il hI rfl rfl (by omega) (by omega) h) ?_
        show pj_X _ _ G0 32 [(0, .ref 6), (1, .int b), (2, .int c)] [.int (pj_ai G0 23 b.toInt.toNat)] _
        obtain ⟨z12, hz12⟩ : ∃ z : Int32, z = pj_ai G0 23 b.toInt.toNat := ⟨_, rfl⟩
        rw [← hz12]
        rw [pj_nm_e]
        have ez12 : (pj_ai G0 23 b.toInt.toNat).toInt = z12.toInt := by rw [hz12]
        cases b13 : pj_c1 .gt z12 0 with
        | true =>
          rw [pj_cT]
          have ub13 := pj_u0_gtT b13
          refine pj_X_of (fun r h => pj_R_ifT 48 rfl rfl b13 h) ?_
          refine pj_X_of (fun r h => pj_R_to (G0, 50, [(0, .ref 6), (1, .int b), (2, .int c)], [.int ((Int8.ofInt (-2)).toInt32)], 0, 0) 50 2 (fun _ => rfl) h) ?_
          exact pj_X_rt rfl rfl ⟨_, rfl, hI, hK, ⟨by omega, by omega⟩, by omega, rfl⟩
        | false =>
          rw [pj_cF]
          have ub13 := pj_u0_gtF b13
          refine pj_X_of (fun r h => pj_R_ifF rfl b13 h) ?_
          refine pj_X_of (fun r h => pj_R_to (G0, 36, [(0, .ref 6), (1, .int b), (2, .int c)], [.ref 6], 0, 0) 36 2 (fun _ => rfl) h) ?_
          refine pj_X_of (fun r h => pj_T_gr hI rfl rfl rfl h) ?_
          refine pj_X_of (fun r h => pj_T_gr hI rfl rfl rfl h) ?_
          refine pj_X_of (fun r h => pj_R_to (G0, 43, [(0, .ref 6), (1, .int b), (2, .int c)], [.int b, .ref 22], 0, 0) 43 2 (fun _ => rfl) h) ?_
          refine pj_X_of (fun r h => pj_T_il hI rfl rfl (by omega) (by omega) h) ?_
          show pj_X _ _ G0 44 [(0, .ref 6), (1, .int b), (2, .int c)] [.int (pj_ai G0 22 b.toInt.toNat)] _
          obtain ⟨z14, hz14⟩ : ∃ z : Int32, z = pj_ai G0 22 b.toInt.toNat := ⟨_, rfl⟩
          rw [← hz14]
          rw [pj_nm_e]
          have ez14 : (pj_ai G0 22 b.toInt.toNat).toInt = z14.toInt := by rw [hz14]
          have fz14_0 : (-1 : Int) ≤ z14.toInt ∧ z14.toInt ≤ 9 ∧ (z14.toInt ≤ -1 ∨ -1 ≤ z14.toInt) := by rw [hz14]; exact hI.2.2.1 22 (6, -1, 9, -1, -1) rfl _ (by show _ < 6; omega)
          refine pj_X_of (fun r h => pj_R_to (G0, 45, [(0, .ref 6), (1, .int b), (2, .int c)], [.int c, .int z14], 0, 0) 45 2 (fun _ => rfl) h) ?_
          cases b15 : pj_c1 .ne z14 c with
          | true =>
            rw [pj_cT]
            have ub15 := pj_u_neT b15
            refine pj_X_of (fun r h => pj_R_icT 51 rfl rfl b15 h) ?_
            refine pj_X_of (fun r h => pj_R_to (G0, 53, [(0, .ref 6), (1, .int b), (2, .int c)], [.int (Int32.ofInt (-1)), .int c], 0, 0) 53 3 (fun _ => rfl) h) ?_
            refine pj_X_of (fun r h => pj_R_icF rfl b3 h) ?_
            refine pj_X_of (fun r h => pj_R_to (G0, 57, [(0, .ref 6), (1, .int b), (2, .int c)], [.ref 6], 0, 0) 57 2 (fun _ => rfl) h) ?_
            refine pj_X_of (fun r h => pj_T_gr hI rfl rfl rfl h) ?_
            refine pj_X_of (fun r h => pj_R_to (G0, 61, [(0, .ref 6), (1, .int b), (2, .int c)], [.int b, .ref 31], 0, 0) 61 2 (fun _ => rfl) h) ?_
            refine pj_X_of (fun r h => pj_T_il hI rfl rfl (by omega) (by omega) h) ?_
            show pj_X _ _ G0 62 [(0, .ref 6), (1, .int b), (2, .int c)] [.int (pj_ai G0 31 b.toInt.toNat)] _
            obtain ⟨z16, hz16⟩ : ∃ z : Int32, z = pj_ai G0 31 b.toInt.toNat := ⟨_, rfl⟩
            rw [← hz16]
            rw [pj_nm_e]
            have ez16 : (pj_ai G0 31 b.toInt.toNat).toInt = z16.toInt := by rw [hz16]
            refine pj_X_of (fun r h => pj_R_to (G0, 63, [(0, .ref 6), (1, .int b), (2, .int c)], [.ref 6, .int z16], 0, 0) 63 2 (fun _ => rfl) h) ?_
            refine pj_X_gm hI rfl rfl (fun q17 => ?_) (fun q17 => ?_)
            · rw [show pj_rb G0 6 0 7 = true from pj_rb_t q17, pj_cT]
              refine pj_X_of (fun r h => pj_T_gr hI rfl rfl rfl h) ?_
              refine pj_X_of (fun r h => pj_R_to (G0, 70, [(0, .ref 6), (1, .int b), (2, .int c)], [.int c, .ref 11, .int z16], 0, 0) 70 2 (fun _ => rfl) h) ?_
              refine pj_X_of (fun r h => pj_T_il hI rfl rfl (by omega) (by omega) h) ?_
              show pj_X _ _ G0 71 [(0, .ref 6), (1, .int b), (2, .int c)] [.int (pj_ai G0 11 c.toInt.toNat), .int z16] _
              obtain ⟨z18, hz18⟩ : ∃ z : Int32, z = pj_ai G0 11 c.toInt.toNat := ⟨_, rfl⟩
              rw [← hz18]
              rw [pj_nm_e]
              have ez18 : (pj_ai G0 11 c.toInt.toNat).toInt = z18.toInt := by rw [hz18]
              have fz18_0 : (0 : Int) ≤ z18.toInt ∧ z18.toInt ≤ 9 ∧ (z18.toInt ≤ 0 ∨ 0 ≤ z18.toInt) := by rw [hz18]; exact hI.2.2.1 11 (10, 0, 9, 0, 0) rfl _ (by show _ < 10; omega)
              cases b19 : pj_c1 .ge z16 z18 with
              | true =>
                rw [pj_cT]
                have ub19 := pj_u_geT b19
                refine pj_X_of (fun r h => pj_R_icT 77 rfl rfl b19 h) ?_
                refine pj_X_of (fun r h => pj_R_to (G0, 79, [(0, .ref 6), (1, .int b), (2, .int c)], [.int (Int32.ofInt (-1)), .int c], 0, 0) 79 3 (fun _ => rfl) h) ?_
                refine pj_X_of (fun r h => pj_R_icF rfl b3 h) ?_
                refine pj_X_of (fun r h => pj_R_to (G0, 83, [(0, .ref 6), (1, .int b), (2, .int c)], [.ref 6], 0, 0) 83 2 (fun _ => rfl) h) ?_
                refine pj_X_of (fun r h => pj_T_gr hI rfl rfl rfl h) ?_
                refine pj_X_of (fun r h => pj_R_to (G0, 87, [(0, .ref 6), (1, .int b), (2, .int c)], [.int c, .ref 21], 0, 0) 87 2 (fun _ => rfl) h) ?_
                refine pj_X_ca (vs := [.ref 21, .int c]) rfl (fun _ => rfl) ⟨Nat.le_of_ble_eq_true rfl, Nat.le_of_ble_eq_true rfl, pj_T_rcv hI rfl⟩ ⟨rfl, rfl⟩ (pj_Y_up (by decide) (ct_72_21x G0 hI c)) ?_
                rintro _ _ ⟨y20, rfl, rfl, ry20, fy20⟩
                rw [← fy20, pj_nm_e]
                show pj_X _ _ G0 90 [(0, .ref 6), (1, .int b), (2, .int c)] [.int y20] _
                cases b21 : pj_c1 .ne y20 0 with
                | true =>
                  rw [pj_cT]
                  have ub21 := pj_u0_neT b21
                  refine pj_X_of (fun r h => pj_R_ifT 96 rfl rfl b21 h) ?_
                  refine pj_X_of (fun r h => pj_R_to (G0, 99, [(0, .ref 6), (1, .int b), (2, .int c)], [.int c, .int b, .ref 6], 0, 0) 99 4 (fun _ => rfl) h) ?_
                  refine pj_X_ca (vs := [.ref 6, .int b, .int c]) rfl (fun _ => rfl) ⟨Nat.le_of_ble_eq_true rfl, Nat.le_of_ble_eq_true rfl, pj_T_rcv hI rfl⟩ ⟨rfl, rfl⟩ (pj_Y_up (by decide) (ct_101x G0 hI b c ⟨by omega, by omega⟩ ⟨by omega, by omega⟩)) ?_
                  rintro _ G23 ⟨y22, rfl, iG23, jG23, ry22, fy22⟩
                  rw [← fy22, pj_bd_e]
                  have kG23 : pj_kpt kc_99x G0 G23 := pj_kpt_t hK (pj_kpt_s jG23 rfl)
                  show pj_X _ _ G23 102 [(0, .ref 6), (1, .int b), (2, .int c)] [.int y22] _
                  exact pj_X_rt rfl rfl ⟨_, rfl, iG23, kG23, ⟨by omega, by omega⟩, by omega, rfl⟩
                | false =>
                  rw [pj_cF]
                  have ub21 := pj_u0_neF b21
                  refine pj_X_of (fun r h => pj_R_ifF rfl b21 h) ?_
                  refine pj_X_of (fun r h => pj_R_to (G0, 95, [(0, .ref 6), (1, .int b), (2, .int c)], [.int ((Int8.ofInt (-4)).toInt32)], 0, 0) 95 2 (fun _ => rfl) h) ?_
                  exact pj_X_rt rfl rfl ⟨_, rfl, hI, hK, ⟨by omega, by omega⟩, by omega, rfl⟩
              | false =>
                rw [pj_cF]
                have ub19 := pj_u_geF b19
                refine pj_X_of (fun r h => pj_R_icF rfl b19 h) ?_
                refine pj_X_of (fun r h => pj_R_to (G0, 76, [(0, .ref 6), (1, .int b), (2, .int c)], [.int ((Int8.ofInt (-3)).toInt32)], 0, 0) 76 2 (fun _ => rfl) h) ?_
                exact pj_X_rt rfl rfl ⟨_, rfl, hI, hK, ⟨by omega, by omega⟩, by omega, rfl⟩
            · rw [show pj_rb G0 6 0 7 = false from pj_rb_f q17 rfl, pj_cF]
              refine pj_X_of (fun r h => pj_T_gr hI rfl rfl rfl h) ?_
              refine pj_X_of (fun r h => pj_R_to (G0, 70, [(0, .ref 6), (1, .int b), (2, .int c)], [.int c, .ref 18, .int z16], 0, 0) 70 2 (fun _ => rfl) h) ?_
              refine pj_X_of (fun r h => pj_T_il hI rfl rfl (by omega) (by omega) h) ?_
              show pj_X _ _ G0 71 [(0, .ref 6), (1, .int b), (2, .int c)] [.int (pj_ai G0 18 c.toInt.toNat), .int z16] _
              obtain ⟨z24, hz24⟩ : ∃ z : Int32, z = pj_ai G0 18 c.toInt.toNat := ⟨_, rfl⟩
              rw [← hz24]
              rw [pj_nm_e]
              have ez24 : (pj_ai G0 18 c.toInt.toNat).toInt = z24.toInt := by rw [hz24]
              have fz24_0 : (0 : Int) ≤ z24.toInt ∧ z24.toInt ≤ 9 ∧ (z24.toInt ≤ 0 ∨ 0 ≤ z24.toInt) := by rw [hz24]; exact hI.2.2.1 18 (10, 0, 9, 0, 0) rfl _ (by show _ < 10; omega)
              cases b25 : pj_c1 .ge z16 z24 with
              | true =>
                rw [pj_cT]
                have ub25 := pj_u_geT b25
                refine pj_X_of (fun r h => pj_R_icT 77 rfl rfl b25 h) ?_
                refine pj_X_of (fun r h => pj_R_to (G0, 79, [(0, .ref 6), (1, .int b), (2, .int c)], [.int (Int32.ofInt (-1)), .int c], 0, 0) 79 3 (fun _ => rfl) h) ?_
                refine pj_X_of (fun r h => pj_R_icF rfl b3 h) ?_
                refine pj_X_of (fun r h => pj_R_to (G0, 83, [(0, .ref 6), (1, .int b), (2, .int c)], [.ref 6], 0, 0) 83 2 (fun _ => rfl) h) ?_
                refine pj_X_of (fun r h => pj_T_gr hI rfl rfl rfl h) ?_
                refine pj_X_of (fun r h => pj_R_to (G0, 87, [(0, .ref 6), (1, .int b), (2, .int c)], [.int c, .ref 21], 0, 0) 87 2 (fun _ => rfl) h) ?_
                refine pj_X_ca (vs := [.ref 21, .int c]) rfl (fun _ => rfl) ⟨Nat.le_of_ble_eq_true rfl, Nat.le_of_ble_eq_true rfl, pj_T_rcv hI rfl⟩ ⟨rfl, rfl⟩ (pj_Y_up (by decide) (ct_72_21x G0 hI c)) ?_
                rintro _ _ ⟨y26, rfl, rfl, ry26, fy26⟩
                rw [← fy26, pj_nm_e]
                show pj_X _ _ G0 90 [(0, .ref 6), (1, .int b), (2, .int c)] [.int y26] _
                cases b27 : pj_c1 .ne y26 0 with
                | true =>
                  rw [pj_cT]
                  have ub27 := pj_u0_neT b27
                  refine pj_X_of (fun r h => pj_R_ifT 96 rfl rfl b27 h) ?_
                  refine pj_X_of (fun r h => pj_R_to (G0, 99, [(0, .ref 6), (1, .int b), (2, .int c)], [.int c, .int b, .ref 6], 0, 0) 99 4 (fun _ => rfl) h) ?_
                  refine pj_X_ca (vs := [.ref 6, .int b, .int c]) rfl (fun _ => rfl) ⟨Nat.le_of_ble_eq_true rfl, Nat.le_of_ble_eq_true rfl, pj_T_rcv hI rfl⟩ ⟨rfl, rfl⟩ (pj_Y_up (by decide) (ct_101x G0 hI b c ⟨by omega, by omega⟩ ⟨by omega, by omega⟩)) ?_
                  rintro _ G29 ⟨y28, rfl, iG29, jG29, ry28, fy28⟩
                  rw [← fy28, pj_bd_e]
                  have kG29 : pj_kpt kc_99x G0 G29 := pj_kpt_t hK (pj_kpt_s jG29 rfl)
                  show pj_X _ _ G29 102 [(0, .ref 6), (1, .int b), (2, .int c)] [.int y28] _
                  exact pj_X_rt rfl rfl ⟨_, rfl, iG29, kG29, ⟨by omega, by omega⟩, by omega, rfl⟩
                | false =>
                  rw [pj_cF]
                  have ub27 := pj_u0_neF b27
                  refine pj_X_of (fun r h => pj_R_ifF rfl b27 h) ?_
                  refine pj_X_of (fun r h => pj_R_to (G0, 95, [(0, .ref 6), (1, .int b), (2, .int c)], [.int ((Int8.ofInt (-4)).toInt32)], 0, 0) 95 2 (fun _ => rfl) h) ?_
                  exact pj_X_rt rfl rfl ⟨_, rfl, hI, hK, ⟨by omega, by omega⟩, by omega, rfl⟩
              | false =>
                rw [pj_cF]
                have ub25 := pj_u_geF b25
                refine pj_X_of (fun r h => pj_R_icF rfl b25 h) ?_
                refine pj_X_of (fun r h => pj_R_to (G0, 76, [(0, .ref 6), (1, .int b), (2, .int c)], [.int ((Int8.ofInt (-3)).toInt32)], 0, 0) 76 2 (fun _ => rfl) h) ?_
                exact pj_X_rt rfl rfl ⟨_, rfl, hI, hK, ⟨by omega, by omega⟩, by omega, rfl⟩
          | false =>
            rw [pj_cF]
            have ub15 := pj_u_neF b15
            refine pj_X_of (fun r h => pj_R_icF rfl b15 h) ?_
            refine pj_X_of (fun r h => pj_R_to (G0, 50, [(0, .ref 6), (1, .int b), (2, .int c)], [.int ((Int8.ofInt (-2)).toInt32)], 0, 0) 50 2 (fun _ => rfl) h) ?_
            exact pj_X_rt rfl rfl ⟨_, rfl, hI, hK, ⟨by omega, by omega⟩, by omega, rfl⟩
      | false =>
        rw [pj_cF]
        have ub11 := pj_u0_neF b11
        refine pj_X_of (fun r h => pj_R_ifF rfl b11 h) ?_
        refine pj_X_of (fun r h => pj_R_to (G0, 22, [(0, .ref 6), (1, .int b), (2, .int c)], [.int (Int32.ofInt (-1))], 0, 0) 22 2 (fun _ => rfl) h) ?_
        exact pj_X_rt rfl rfl ⟨_, rfl, hI, hK, ⟨by omega, by omega⟩, by omega, rfl⟩
theorem fr_99x (G0 : pj_G) (hI : pj_Inv G0) (b : Int32) (c : Int32) : pj_Inv (F_99x G0 b c).2 ∧ pj_kpt kc_99x G0 (F_99x G0 b c).2 ∧ ((-4 : Int) ≤ (F_99x G0 b c).1.toInt ∧ (F_99x G0 b c).1.toInt ≤ 99) ∧ (0 < (F_99x G0 b c).1.toInt → 0 ≤ b.toInt ∧ b.toInt ≤ 5 ∧ -1 ≤ c.toInt ∧ c.toInt ≤ 9) := by
  obtain ⟨v, G', -, y, -, i, j, r, x, e⟩ := ct_99x G0 hI b c
  rw [← e]
  exact ⟨i, j, r, x⟩
def kc_102x : pj_KT := ([], [22, 23, 30, 33], [22, 23, 30, 33])
noncomputable def F_102x (G0 : pj_G) (b : Int32) (c : Int32) : Int32 × pj_G := pj_bd (F_99x G0 b c) (fun y1 G2 => cond (pj_c1 .le y1 0) ((y1, G2)) (pj_nm (pj_wa G2 22 b.toInt.toNat c) (fun G4 => pj_nm (pj_wa G4 23 b.toInt.toNat y1) (fun G5 => (y1, G5)))))
theorem F_102x_e (G0 : pj_G) (b : Int32) (c : Int32) : F_102x G0 b c = pj_bd (F_99x G0 b c) (fun y1 G2 => cond (pj_c1 .le y1 0) ((y1, G2)) (pj_nm (pj_wa G2 22 b.toInt.toNat c) (fun G4 => pj_nm (pj_wa G4 23 b.toInt.toNat y1) (fun G5 => (y1, G5))))) := rfl
theorem ct_102x (G0 : pj_G) (hI : pj_Inv G0) (b : Int32) (c : Int32) : pj_Y 5 102 [.ref 6, .int b, .int c] G0 (fun v' G' => ∃ y : Int32, v' = some (.int y) ∧ pj_Inv G' ∧ pj_kpt kc_102x G0 G' ∧ ((-4 : Int) ≤ y.toInt ∧ y.toInt ≤ 99) ∧ ((y, G') = F_102x G0 b c)) := by
  refine pj_Y_X (M := pj_m102) rfl rfl (Nat.le_of_ble_eq_true rfl) ?_
  have hK : pj_kpt kc_102x G0 G0 := pj_kpt_r _ _
  show pj_X _ _ G0 0 [(0, .ref 6), (1, .int b), (2, .int c)] [] _
  rw [F_102x_e]
  refine pj_X_of (fun r h => pj_R_to (G0, 3, [(0, .ref 6), (1, .int b), (2, .int c)], [.int c, .int b, .ref 6], 0, 0) 3 4 (fun _ => rfl) h) ?_
  refine pj_X_ca (vs := [.ref 6, .int b, .int c]) rfl (fun _ => rfl) ⟨Nat.le_of_ble_eq_true rfl, Nat.le_of_ble_eq_true rfl, pj_T_rcv hI rfl⟩ ⟨rfl, rfl⟩ (pj_Y_up (by decide) (ct_99x G0 hI b c)) ?_
  rintro _ G2 ⟨y1, rfl, iG2, jG2, ry1, ey1, fy1⟩
  rw [← fy1, pj_bd_e]
  have kG2 : pj_kpt kc_102x G0 G2 := pj_kpt_t hK (pj_kpt_s jG2 rfl)
  show pj_X _ _ G2 6 [(0, .ref 6), (1, .int b), (2, .int c)] [.int y1] _
  refine pj_X_of (fun r h => pj_R_to (G2, 8, [(3, .int y1), (0, .ref 6), (1, .int b), (2, .int c)], [.int y1], 0, 0) 8 3 (fun _ => rfl) h) ?_
  cases b3 : pj_c1 .le y1 0 with
  | true =>
    rw [pj_cT]
    have ub3 := pj_u0_leT b3
    refine pj_X_of (fun r h => pj_R_ifT 31 rfl rfl b3 h) ?_
    refine pj_X_of (fun r h => pj_R_to (G2, 32, [(3, .int y1), (0, .ref 6), (1, .int b), (2, .int c)], [.int y1], 0, 0) 32 2 (fun _ => rfl) h) ?_
    exact pj_X_rt rfl rfl ⟨_, rfl, iG2, kG2, ⟨by omega, by omega⟩, rfl⟩
  | false =>
    rw [pj_cF]
    have ub3 := pj_u0_leF b3
    refine pj_X_of (fun r h => pj_R_ifF rfl b3 h) ?_
    refine pj_X_of (fun r h => pj_R_to (G2, 12, [(3, .int y1), (0, .ref 6), (1, .int b), (2, .int c)], [.ref 6], 0, 0) 12 2 (fun _ => rfl) h) ?_
    refine pj_X_of (fun r h => pj_T_gr iG2 rfl rfl rfl h) ?_
    refine pj_X_of (fun r h => pj_T_gr iG2 rfl rfl rfl h) ?_
    refine pj_X_of (fun r h => pj_R_to (G2, 20, [(3, .int y1), (0, .ref 6), (1, .int b), (2, .int c)], [.int c, .int b, .ref 22], 0, 0) 20 3 (fun _ => rfl) h) ?_
    refine pj_X_of (fun r h => pj_T_is iG2 rfl rfl (by omega) (by omega) h) ?_
    show pj_X _ _ (pj_wa G2 22 b.toInt.toNat c) 21 [(3, .int y1), (0, .ref 6), (1, .int b), (2, .int c)] [] _
    obtain ⟨G4, hG4⟩ : ∃ H, H = pj_wa G2 22 b.toInt.toNat c := ⟨_, rfl⟩
    have iG4 : pj_Inv G4 := by rw [hG4]; exact pj_Inv_wa iG2 rfl (fun q hq => by cases hq; exact ⟨by show (-1 : Int) ≤ _; omega, by show _ ≤ (9 : Int); omega, by show _ ≤ (-1 : Int) ∨ (-1 : Int) ≤ _; omega⟩) (fun n hn => by cases hn)
    have kG4 : pj_kpt kc_102x G0 G4 := by rw [hG4]; exact pj_kpt_a kG2 rfl
    rw [← hG4]
    rw [pj_nm_e]
    refine pj_X_of (fun r h => pj_R_to (G4, 22, [(3, .int y1), (0, .ref 6), (1, .int b), (2, .int c)], [.ref 6], 0, 0) 22 2 (fun _ => rfl) h) ?_
    refine pj_X_of (fun r h => pj_T_gr iG4 rfl rfl rfl h) ?_
    refine pj_X_of (fun r h => pj_T_gr iG4 rfl rfl rfl h) ?_
    refine pj_X_of (fun r h => pj_R_to (G4, 30, [(3, .int y1), (0, .ref 6), (1, .int b), (2, .int c)], [.int y1, .int b, .ref 23], 0, 0) 30 3 (fun _ => rfl) h) ?_
    refine pj_X_of (fun r h => pj_T_is iG4 rfl rfl (by omega) (by omega) h) ?_
    show pj_X _ _ (pj_wa G4 23 b.toInt.toNat y1) 31 [(3, .int y1), (0, .ref 6), (1, .int b), (2, .int c)] [] _
    obtain ⟨G5, hG5⟩ : ∃ H, H = pj_wa G4 23 b.toInt.toNat y1 := ⟨_, rfl⟩
    have iG5 : pj_Inv G5 := by rw [hG5]; exact pj_Inv_wa iG4 rfl (fun q hq => by cases hq) (fun n hn => by cases hn)
    have kG5 : pj_kpt kc_102x G0 G5 := by rw [hG5]; exact pj_kpt_a kG4 rfl
    rw [← hG5]
    rw [pj_nm_e]
    refine pj_X_of (fun r h => pj_R_to (G5, 32, [(3, .int y1), (0, .ref 6), (1, .int b), (2, .int c)], [.int y1], 0, 0) 32 2 (fun _ => rfl) h) ?_
    exact pj_X_rt rfl rfl ⟨_, rfl, iG5, kG5, ⟨by omega, by omega⟩, rfl⟩
theorem fr_102x (G0 : pj_G) (hI : pj_Inv G0) (b : Int32) (c : Int32) : pj_Inv (F_102x G0 b c).2 ∧ pj_kpt kc_102x G0 (F_102x G0 b c).2 ∧ ((-4 : Int) ≤ (F_102x G0 b c).1.toInt ∧ (F_102x G0 b c).1.toInt ≤ 99) := by
  obtain ⟨v, G', -, y, -, i, j, r, e⟩ := ct_102x G0 hI b c
  rw [← e]
  exact ⟨i, j, r⟩
def kc_115 : pj_KT := ([], [30, 33], [30, 33])
theorem ct_115 (G0 : pj_G) (hI : pj_Inv G0) (b : Int32) (rb : (0 : Int) ≤ b.toInt ∧ b.toInt ≤ 5) : pj_Y 4 115 [.ref 6, .int b] G0 (fun v G' => ∃ y : Int32, v = some (.int y) ∧ pj_Inv G' ∧ pj_kpt kc_115 G0 G' ∧ ((-2147483648 : Int) ≤ y.toInt ∧ y.toInt ≤ 2147483647)) := by
  have c0_ : (Int32.ofInt (-1)).toInt = -1 := by decide
  refine pj_Y_X (M := pj_m115) rfl rfl (Nat.le_of_ble_eq_true rfl) ?_
  have hK : pj_kpt kc_115 G0 G0 := pj_kpt_r _ _
  show pj_X _ _ G0 0 [(0, .ref 6), (1, .int b)] [] _
  refine pj_X_of (fun r h => pj_R_to (G0, 1, [(0, .ref 6), (1, .int b)], [.ref 6], 0, 0) 1 2 (fun _ => rfl) h) ?_
  refine pj_X_of (fun r h => pj_T_gr hI rfl rfl rfl h) ?_
  refine pj_X_of (fun r h => pj_T_gr hI rfl rfl rfl h) ?_
  refine pj_X_of (fun r h => pj_R_to (G0, 8, [(0, .ref 6), (1, .int b)], [.int b, .ref 22], 0, 0) 8 2 (fun _ => rfl) h) ?_
  refine pj_X_of (fun r h => pj_T_il hI rfl rfl (by omega) (by omega) h) ?_
  show pj_X _ _ G0 9 [(0, .ref 6), (1, .int b)] [.int (pj_ai G0 22 b.toInt.toNat)] _
  obtain ⟨z1, hz1⟩ : ∃ z : Int32, z = pj_ai G0 22 b.toInt.toNat := ⟨_, rfl⟩
  rw [← hz1]
  have ez1 : (pj_ai G0 22 b.toInt.toNat).toInt = z1.toInt := by rw [hz1]
  have fz1_0 : (-1 : Int) ≤ z1.toInt ∧ z1.toInt ≤ 9 ∧ (z1.toInt ≤ -1 ∨ -1 ≤ z1.toInt) := by rw [hz1]; exact hI.2.2.1 22 (6, -1, 9, -1, -1) rfl _ (by show _ < 6; omega)
  refine pj_X_of (fun r h => pj_R_to (G0, 10, [(0, .ref 6), (1, .int b)], [.int (Int32.ofInt (-1)), .int z1], 0, 0) 10 2 (fun _ => rfl) h) ?_
  cases b2 : pj_c1 .ne z1 (Int32.ofInt (-1)) with
  | true =>
    have ub2 := pj_u_neT b2
    refine pj_X_of (fun r h => pj_R_icT 31 rfl rfl b2 h) ?_
    refine pj_X_of (fun r h => pj_R_to (G0, 32, [(0, .ref 6), (1, .int b)], [.ref 6], 0, 0) 32 2 (fun _ => rfl) h) ?_
    refine pj_X_of (fun r h => pj_T_gr hI rfl rfl rfl h) ?_
    refine pj_X_of (fun r h => pj_T_gr hI rfl rfl rfl h) ?_
    refine pj_X_of (fun r h => pj_R_to (G0, 39, [(0, .ref 6), (1, .int b)], [.int b, .ref 23], 0, 0) 39 2 (fun _ => rfl) h) ?_
    refine pj_X_of (fun r h => pj_T_il hI rfl rfl (by omega) (by omega) h) ?_
    show pj_X _ _ G0 40 [(0, .ref 6), (1, .int b)] [.int (pj_ai G0 23 b.toInt.toNat)] _
    obtain ⟨z3, hz3⟩ : ∃ z : Int32, z = pj_ai G0 23 b.toInt.toNat := ⟨_, rfl⟩
    rw [← hz3]
    have ez3 : (pj_ai G0 23 b.toInt.toNat).toInt = z3.toInt := by rw [hz3]
    cases b4 : pj_c1 .le z3 0 with
    | true =>
      have ub4 := pj_u0_leT b4
      refine pj_X_of (fun r h => pj_R_ifT 47 rfl rfl b4 h) ?_
      refine pj_X_of (fun r h => pj_R_to (G0, 48, [(0, .ref 6), (1, .int b)], [.ref 6], 0, 0) 48 2 (fun _ => rfl) h) ?_
      refine pj_X_of (fun r h => pj_T_gr hI rfl rfl rfl h) ?_
      refine pj_X_of (fun r h => pj_T_gi hI rfl rfl h) ?_
      show pj_X _ _ G0 54 [(0, .ref 6), (1, .int b)] [.int (pj_fi G0 21 7)] _
      obtain ⟨y5, hy5⟩ : ∃ z : Int32, z = pj_fi G0 21 7 := ⟨_, rfl⟩
      rw [← hy5]
      have ey5 : (pj_fi G0 21 7).toInt = y5.toInt := by rw [hy5]
      refine pj_X_of (fun r h => pj_R_to (G0, 57, [(0, .ref 6), (1, .int b)], [.int (Int32.ofInt (-1)), .int b, .ref 6, .int y5], 0, 0) 57 4 (fun _ => rfl) h) ?_
      refine pj_X_ca (vs := [.ref 6, .int b, .int (Int32.ofInt (-1))]) rfl (fun _ => rfl) ⟨Nat.le_of_ble_eq_true rfl, Nat.le_of_ble_eq_true rfl, pj_T_rcv hI rfl⟩ ⟨rfl, rfl⟩ (pj_Y_up (by decide) (ct_101x G0 hI b (Int32.ofInt (-1)) ⟨by omega, by omega⟩ ⟨by omega, by omega⟩)) ?_
      rintro _ G7 ⟨y6, rfl, iG7, jG7, ry6, fy6⟩
      have kG7 : pj_kpt kc_115 G0 G7 := pj_kpt_t hK (pj_kpt_s jG7 rfl)
      show pj_X _ _ G7 60 [(0, .ref 6), (1, .int b)] [.int y6, .int y5] _
      refine pj_X_of (fun r h => pj_R_to (G7, 61, [(0, .ref 6), (1, .int b)], [.int (y5 + y6)], 0, 0) 61 2 (fun _ => rfl) h) ?_
      obtain ⟨z8, hz8⟩ : ∃ z : Int32, z = y5 + y6 := ⟨_, rfl⟩
      rw [← hz8]
      exact pj_X_rt rfl rfl ⟨_, rfl, iG7, kG7, pj_i32 _⟩
    | false =>
      have ub4 := pj_u0_leF b4
      refine pj_X_of (fun r h => pj_R_ifF rfl b4 h) ?_
      refine pj_X_of (fun r h => pj_R_to (G0, 61, [(0, .ref 6), (1, .int b)], [.int (Int32.ofInt (-1))], 0, 0) 61 3 (fun _ => rfl) h) ?_
      exact pj_X_rt rfl rfl ⟨_, rfl, hI, hK, pj_i32 _⟩
  | false =>
    have ub2 := pj_u_neF b2
    refine pj_X_of (fun r h => pj_R_icF rfl b2 h) ?_
    refine pj_X_of (fun r h => pj_R_to (G0, 14, [(0, .ref 6), (1, .int b)], [.ref 6], 0, 0) 14 2 (fun _ => rfl) h) ?_
    refine pj_X_of (fun r h => pj_T_gr hI rfl rfl rfl h) ?_
    refine pj_X_of (fun r h => pj_T_gi hI rfl rfl h) ?_
    show pj_X _ _ G0 20 [(0, .ref 6), (1, .int b)] [.int (pj_fi G0 21 7)] _
    obtain ⟨y9, hy9⟩ : ∃ z : Int32, z = pj_fi G0 21 7 := ⟨_, rfl⟩
    rw [← hy9]
    have ey9 : (pj_fi G0 21 7).toInt = y9.toInt := by rw [hy9]
    refine pj_X_of (fun r h => pj_R_to (G0, 21, [(0, .ref 6), (1, .int b)], [.ref 6, .int y9], 0, 0) 21 2 (fun _ => rfl) h) ?_
    refine pj_X_of (fun r h => pj_T_gr hI rfl rfl rfl h) ?_
    refine pj_X_of (fun r h => pj_T_gr hI rfl rfl rfl h) ?_
    refine pj_X_of (fun r h => pj_R_to (G0, 28, [(0, .ref 6), (1, .int b)], [.int b, .ref 23, .int y9], 0, 0) 28 2 (fun _ => rfl) h) ?_
    refine pj_X_of (fun r h => pj_T_il hI rfl rfl (by omega) (by omega) h) ?_
    show pj_X _ _ G0 29 [(0, .ref 6), (1, .int b)] [.int (pj_ai G0 23 b.toInt.toNat), .int y9] _
    obtain ⟨z10, hz10⟩ : ∃ z : Int32, z = pj_ai G0 23 b.toInt.toNat := ⟨_, rfl⟩
    rw [← hz10]
    have ez10 : (pj_ai G0 23 b.toInt.toNat).toInt = z10.toInt := by rw [hz10]
    refine pj_X_of (fun r h => pj_R_to (G0, 30, [(0, .ref 6), (1, .int b)], [.int (y9 + z10)], 0, 0) 30 2 (fun _ => rfl) h) ?_
    obtain ⟨z11, hz11⟩ : ∃ z : Int32, z = y9 + z10 := ⟨_, rfl⟩
    rw [← hz11]
    exact pj_X_rt rfl rfl ⟨_, rfl, hI, hK, pj_i32 _⟩
