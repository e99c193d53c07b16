theorem pj_L63 {x : Int32} : 0 ≤ (x &&& (Int8.ofInt 63).toInt32).toInt ∧ (x &&& (Int8.ofInt 63).toInt32).toInt ≤ 63 := by
  have h : (0 : Int) ≤ ((Int8.ofInt 63).toInt32).toInt := by decide
  have e := pj_andI (x := x) (y := (Int8.ofInt 63).toInt32) h
  rw [show ((Int8.ofInt 63).toInt32).toInt = 63 by decide] at e
  exact e
theorem pj_R_sa {C : Nat → pj_F} {xs : Nat → Int32} {M : pj_M} {r : Option Value × pj_G × Nat × Nat} {G : pj_G} {pc mc ms : Nat} {L : pj_L} {S : List Value} {k : Nat} {len : Nat} {inf : List Nat} {z : Int} (hf : pj_find M.2.2.2.2.2 pc = some (.arraylength, len, inf, z)) (h2 : pj_R C (k + 1) xs M (G, pc + 1, L, .int (Int32.ofNat k) :: S, mc, ms) r) : pj_R C (k + 1) xs M (G, pc, L, .ref 0 :: S, mc, ms) r := pj_R_st (t' := (G, pc + 1, L, .int (Int32.ofNat k) :: S, 0, 0)) hf (fun call => rfl) h2
def pj_csh : pj_M := (pj_law.1, pj_law.2.1, 8, some .boolean, pj_law.2.2.2.2.1, [(23, .iload 4, 2, [], 0), (25, .aload_n 0, 1, [], 0), (26, .arraylength, 1, [], 0), (27, .iconst 5, 1, [], 0), (28, .isub, 1, [], 0), (29, .if_icmp .gt 1461, 3, [1490], 0), (32, .aload_n 0, 1, [], 0), (33, .iload 4, 2, [], 0), (35, .iaload, 1, [], 0), (36, .bipush 63, 2, [], 0), (38, .iand, 1, [], 0), (39, .tableswitch 1445 0 43 #[189, 214, 239, 252, 265, 278, 291, 331, 371, 411, 472, 509, 546, 583, 620, 645, 658, 671, 708, 733, 770, 807, 820, 845, 870, 883, 896, 921, 934, 959, 1020, 1069, 1118, 1131, 1144, 1157, 1218, 1267, 1292, 1305, 1342, 1367, 1392, 1417], 189, [], 0), (1484, .iinc 4 5, 3, [], 0), (1487, .goto (-1464), 3, [23], 0), (1490, .iconst 1, 1, [], 0), (1491, .ireturn, 1, [], 0)])
set_option maxRecDepth 100000 in
theorem pj_csh_ok : pj_csh.2.2.2.2.2.all (fun q => decide (pj_find pj_law.2.2.2.2.2 q.1 = some q.2)) = true := by decide +kernel
theorem pj_csh_s : ∀ pc q, pj_find pj_csh.2.2.2.2.2 pc = some q → pj_find pj_law.2.2.2.2.2 pc = some q := fun pc q hq => of_decide_eq_true (List.all_eq_true.mp pj_csh_ok (pc, q) (pj_find_s hq))
set_option maxRecDepth 100000 in
set_option maxHeartbeats 8000000 in
/-- one turn of the loop -/
theorem pj_turn {k : Nat} {xs : Nat → Int32} (hk : k ≤ 2560) (G : pj_G) (v4 : Int32) (hG : pj_LI v4.toInt G) (h0 : 0 ≤ v4.toInt) (h5 : v4.toInt + 5 ≤ k) (mc ms : Nat) : ∃ (G' : pj_G) (dc ds : Nat), pj_LI (v4.toInt + 5) G' ∧ dc ≤ 1 ∧ ds ≤ 6 ∧ ∀ r, pj_R pj_lz (k + 1) xs pj_law (G', 1484, [(4, .int v4), (3, .ref 203), (2, .ref 171), (1, .ref 1), (0, .ref 0)], [], mc + dc, ms + ds) r → pj_R pj_lz (k + 1) xs pj_law (G, 39, [(4, .int v4), (3, .ref 203), (2, .ref 171), (1, .ref 1), (0, .ref 0)], [.int (xs v4.toNatClampNeg &&& (Int8.ofInt 63).toInt32)], mc, ms) r := by
  obtain ⟨x, hx⟩ : ∃ z : Int32, z = xs v4.toNatClampNeg &&& (Int8.ofInt 63).toInt32 := ⟨_, rfl⟩
  have hr := pj_L63 (x := xs v4.toNatClampNeg)
  rw [← hx] at hr ⊢
  by_cases q0 : x.toInt = 0
  · obtain ⟨G', dc, ds, a1, a2, a3, a4⟩ := lw_0 (xs := xs) hk G v4 hG h0 h5 mc ms
    exact ⟨G', dc, ds, a1, a2, a3, fun r hr2 => pj_R_tw 228 (pj_csh_s _ _ rfl) q0 rfl (a4 r hr2)⟩
  by_cases q1 : x.toInt = 1
  · obtain ⟨G', dc, ds, a1, a2, a3, a4⟩ := lw_1 (xs := xs) hk G v4 hG h0 h5 mc ms
    exact ⟨G', dc, ds, a1, a2, a3, fun r hr2 => pj_R_tw 253 (pj_csh_s _ _ rfl) q1 rfl (a4 r hr2)⟩
  by_cases q2 : x.toInt = 2
  · obtain ⟨G', dc, ds, a1, a2, a3, a4⟩ := lw_2 (xs := xs) hk G v4 hG h0 h5 mc ms
    exact ⟨G', dc, ds, a1, a2, a3, fun r hr2 => pj_R_tw 278 (pj_csh_s _ _ rfl) q2 rfl (a4 r hr2)⟩
  by_cases q3 : x.toInt = 3
  · obtain ⟨G', dc, ds, a1, a2, a3, a4⟩ := lw_3 (xs := xs) hk G v4 hG h0 h5 mc ms
    exact ⟨G', dc, ds, a1, a2, a3, fun r hr2 => pj_R_tw 291 (pj_csh_s _ _ rfl) q3 rfl (a4 r hr2)⟩
  by_cases q4 : x.toInt = 4
  · obtain ⟨G', dc, ds, a1, a2, a3, a4⟩ := lw_4 (xs := xs) hk G v4 hG h0 h5 mc ms
    exact ⟨G', dc, ds, a1, a2, a3, fun r hr2 => pj_R_tw 304 (pj_csh_s _ _ rfl) q4 rfl (a4 r hr2)⟩
  by_cases q5 : x.toInt = 5
  · obtain ⟨G', dc, ds, a1, a2, a3, a4⟩ := lw_5 (xs := xs) hk G v4 hG h0 h5 mc ms
    exact ⟨G', dc, ds, a1, a2, a3, fun r hr2 => pj_R_tw 317 (pj_csh_s _ _ rfl) q5 rfl (a4 r hr2)⟩
  by_cases q6 : x.toInt = 6
  · obtain ⟨G', dc, ds, a1, a2, a3, a4⟩ := lw_6 (xs := xs) hk G v4 hG h0 h5 mc ms
    exact ⟨G', dc, ds, a1, a2, a3, fun r hr2 => pj_R_tw 330 (pj_csh_s _ _ rfl) q6 rfl (a4 r hr2)⟩
  by_cases q7 : x.toInt = 7
  · obtain ⟨G', dc, ds, a1, a2, a3, a4⟩ := lw_7 (xs := xs) hk G v4 hG h0 h5 mc ms
    exact ⟨G', dc, ds, a1, a2, a3, fun r hr2 => pj_R_tw 370 (pj_csh_s _ _ rfl) q7 rfl (a4 r hr2)⟩
  by_cases q8 : x.toInt = 8
  · obtain ⟨G', dc, ds, a1, a2, a3, a4⟩ := lw_8 (xs := xs) hk G v4 hG h0 h5 mc ms
    exact ⟨G', dc, ds, a1, a2, a3, fun r hr2 => pj_R_tw 410 (pj_csh_s _ _ rfl) q8 rfl (a4 r hr2)⟩
  by_cases q9 : x.toInt = 9
  · obtain ⟨G', dc, ds, a1, a2, a3, a4⟩ := lw_9 (xs := xs) hk G v4 hG h0 h5 mc ms
    exact ⟨G', dc, ds, a1, a2, a3, fun r hr2 => pj_R_tw 450 (pj_csh_s _ _ rfl) q9 rfl (a4 r hr2)⟩
  by_cases q10 : x.toInt = 10
  · obtain ⟨G', dc, ds, a1, a2, a3, a4⟩ := lw_10 (xs := xs) hk G v4 hG h0 h5 mc ms
    exact ⟨G', dc, ds, a1, a2, a3, fun r hr2 => pj_R_tw 511 (pj_csh_s _ _ rfl) q10 rfl (a4 r hr2)⟩
  by_cases q11 : x.toInt = 11
  · obtain ⟨G', dc, ds, a1, a2, a3, a4⟩ := lw_11 (xs := xs) hk G v4 hG h0 h5 mc ms
    exact ⟨G', dc, ds, a1, a2, a3, fun r hr2 => pj_R_tw 548 (pj_csh_s _ _ rfl) q11 rfl (a4 r hr2)⟩
  by_cases q12 : x.toInt = 12
  · obtain ⟨G', dc, ds, a1, a2, a3, a4⟩ := lw_12 (xs := xs) hk G v4 hG h0 h5 mc ms
    exact ⟨G', dc, ds, a1, a2, a3, fun r hr2 => pj_R_tw 585 (pj_csh_s _ _ rfl) q12 rfl (a4 r hr2)⟩
  by_cases q13 : x.toInt = 13
  · obtain ⟨G', dc, ds, a1, a2, a3, a4⟩ := lw_13 (xs := xs) hk G v4 hG h0 h5 mc ms
    exact ⟨G', dc, ds, a1, a2, a3, fun r hr2 => pj_R_tw 622 (pj_csh_s _ _ rfl) q13 rfl (a4 r hr2)⟩
  by_cases q14 : x.toInt = 14
  · obtain ⟨G', dc, ds, a1, a2, a3, a4⟩ := lw_14 (xs := xs) hk G v4 hG h0 h5 mc ms
    exact ⟨G', dc, ds, a1, a2, a3, fun r hr2 => pj_R_tw 659 (pj_csh_s _ _ rfl) q14 rfl (a4 r hr2)⟩
  by_cases q15 : x.toInt = 15
  · obtain ⟨G', dc, ds, a1, a2, a3, a4⟩ := lw_15 (xs := xs) hk G v4 hG h0 h5 mc ms
    exact ⟨G', dc, ds, a1, a2, a3, fun r hr2 => pj_R_tw 684 (pj_csh_s _ _ rfl) q15 rfl (a4 r hr2)⟩
  by_cases q16 : x.toInt = 16
  · obtain ⟨G', dc, ds, a1, a2, a3, a4⟩ := lw_16 (xs := xs) hk G v4 hG h0 h5 mc ms
    exact ⟨G', dc, ds, a1, a2, a3, fun r hr2 => pj_R_tw 697 (pj_csh_s _ _ rfl) q16 rfl (a4 r hr2)⟩
  by_cases q17 : x.toInt = 17
  · obtain ⟨G', dc, ds, a1, a2, a3, a4⟩ := lw_17 (xs := xs) hk G v4 hG h0 h5 mc ms
    exact ⟨G', dc, ds, a1, a2, a3, fun r hr2 => pj_R_tw 710 (pj_csh_s _ _ rfl) q17 rfl (a4 r hr2)⟩
  by_cases q18 : x.toInt = 18
  · obtain ⟨G', dc, ds, a1, a2, a3, a4⟩ := lw_18 (xs := xs) hk G v4 hG h0 h5 mc ms
    exact ⟨G', dc, ds, a1, a2, a3, fun r hr2 => pj_R_tw 747 (pj_csh_s _ _ rfl) q18 rfl (a4 r hr2)⟩
  by_cases q19 : x.toInt = 19
  · obtain ⟨G', dc, ds, a1, a2, a3, a4⟩ := lw_19 (xs := xs) hk G v4 hG h0 h5 mc ms
    exact ⟨G', dc, ds, a1, a2, a3, fun r hr2 => pj_R_tw 772 (pj_csh_s _ _ rfl) q19 rfl (a4 r hr2)⟩
  by_cases q20 : x.toInt = 20
  · obtain ⟨G', dc, ds, a1, a2, a3, a4⟩ := lw_20 (xs := xs) hk G v4 hG h0 h5 mc ms
    exact ⟨G', dc, ds, a1, a2, a3, fun r hr2 => pj_R_tw 809 (pj_csh_s _ _ rfl) q20 rfl (a4 r hr2)⟩
  by_cases q21 : x.toInt = 21
  · obtain ⟨G', dc, ds, a1, a2, a3, a4⟩ := lw_21 (xs := xs) hk G v4 hG h0 h5 mc ms
    exact ⟨G', dc, ds, a1, a2, a3, fun r hr2 => pj_R_tw 846 (pj_csh_s _ _ rfl) q21 rfl (a4 r hr2)⟩
  by_cases q22 : x.toInt = 22
  · obtain ⟨G', dc, ds, a1, a2, a3, a4⟩ := lw_22 (xs := xs) hk G v4 hG h0 h5 mc ms
    exact ⟨G', dc, ds, a1, a2, a3, fun r hr2 => pj_R_tw 859 (pj_csh_s _ _ rfl) q22 rfl (a4 r hr2)⟩
  by_cases q23 : x.toInt = 23
  · obtain ⟨G', dc, ds, a1, a2, a3, a4⟩ := lw_23 (xs := xs) hk G v4 hG h0 h5 mc ms
    exact ⟨G', dc, ds, a1, a2, a3, fun r hr2 => pj_R_tw 884 (pj_csh_s _ _ rfl) q23 rfl (a4 r hr2)⟩
  by_cases q24 : x.toInt = 24
  · obtain ⟨G', dc, ds, a1, a2, a3, a4⟩ := lw_24 (xs := xs) hk G v4 hG h0 h5 mc ms
    exact ⟨G', dc, ds, a1, a2, a3, fun r hr2 => pj_R_tw 909 (pj_csh_s _ _ rfl) q24 rfl (a4 r hr2)⟩
  by_cases q25 : x.toInt = 25
  · obtain ⟨G', dc, ds, a1, a2, a3, a4⟩ := lw_25 (xs := xs) hk G v4 hG h0 h5 mc ms
    exact ⟨G', dc, ds, a1, a2, a3, fun r hr2 => pj_R_tw 922 (pj_csh_s _ _ rfl) q25 rfl (a4 r hr2)⟩
  by_cases q26 : x.toInt = 26
  · obtain ⟨G', dc, ds, a1, a2, a3, a4⟩ := lw_26 (xs := xs) hk G v4 hG h0 h5 mc ms
    exact ⟨G', dc, ds, a1, a2, a3, fun r hr2 => pj_R_tw 935 (pj_csh_s _ _ rfl) q26 rfl (a4 r hr2)⟩
  by_cases q27 : x.toInt = 27
  · obtain ⟨G', dc, ds, a1, a2, a3, a4⟩ := lw_27 (xs := xs) hk G v4 hG h0 h5 mc ms
    exact ⟨G', dc, ds, a1, a2, a3, fun r hr2 => pj_R_tw 960 (pj_csh_s _ _ rfl) q27 rfl (a4 r hr2)⟩
  by_cases q28 : x.toInt = 28
  · obtain ⟨G', dc, ds, a1, a2, a3, a4⟩ := lw_28 (xs := xs) hk G v4 hG h0 h5 mc ms
    exact ⟨G', dc, ds, a1, a2, a3, fun r hr2 => pj_R_tw 973 (pj_csh_s _ _ rfl) q28 rfl (a4 r hr2)⟩
  by_cases q29 : x.toInt = 29
  · obtain ⟨G', dc, ds, a1, a2, a3, a4⟩ := lw_29 (xs := xs) hk G v4 hG h0 h5 mc ms
    exact ⟨G', dc, ds, a1, a2, a3, fun r hr2 => pj_R_tw 998 (pj_csh_s _ _ rfl) q29 rfl (a4 r hr2)⟩
  by_cases q30 : x.toInt = 30
  · obtain ⟨G', dc, ds, a1, a2, a3, a4⟩ := lw_30 (xs := xs) hk G v4 hG h0 h5 mc ms
    exact ⟨G', dc, ds, a1, a2, a3, fun r hr2 => pj_R_tw 1059 (pj_csh_s _ _ rfl) q30 rfl (a4 r hr2)⟩
  by_cases q31 : x.toInt = 31
  · obtain ⟨G', dc, ds, a1, a2, a3, a4⟩ := lw_31 (xs := xs) hk G v4 hG h0 h5 mc ms
    exact ⟨G', dc, ds, a1, a2, a3, fun r hr2 => pj_R_tw 1108 (pj_csh_s _ _ rfl) q31 rfl (a4 r hr2)⟩
  by_cases q32 : x.toInt = 32
  · obtain ⟨G', dc, ds, a1, a2, a3, a4⟩ := lw_32 (xs := xs) hk G v4 hG h0 h5 mc ms
    exact ⟨G', dc, ds, a1, a2, a3, fun r hr2 => pj_R_tw 1157 (pj_csh_s _ _ rfl) q32 rfl (a4 r hr2)⟩
  by_cases q33 : x.toInt = 33
  · obtain ⟨G', dc, ds, a1, a2, a3, a4⟩ := lw_33 (xs := xs) hk G v4 hG h0 h5 mc ms
    exact ⟨G', dc, ds, a1, a2, a3, fun r hr2 => pj_R_tw 1170 (pj_csh_s _ _ rfl) q33 rfl (a4 r hr2)⟩
  by_cases q34 : x.toInt = 34
  · obtain ⟨G', dc, ds, a1, a2, a3, a4⟩ := lw_34 (xs := xs) hk G v4 hG h0 h5 mc ms
    exact ⟨G', dc, ds, a1, a2, a3, fun r hr2 => pj_R_tw 1183 (pj_csh_s _ _ rfl) q34 rfl (a4 r hr2)⟩
  by_cases q35 : x.toInt = 35
  · obtain ⟨G', dc, ds, a1, a2, a3, a4⟩ := lw_35 (xs := xs) hk G v4 hG h0 h5 mc ms
    exact ⟨G', dc, ds, a1, a2, a3, fun r hr2 => pj_R_tw 1196 (pj_csh_s _ _ rfl) q35 rfl (a4 r hr2)⟩
  by_cases q36 : x.toInt = 36
  · obtain ⟨G', dc, ds, a1, a2, a3, a4⟩ := lw_36 (xs := xs) hk G v4 hG h0 h5 mc ms
    exact ⟨G', dc, ds, a1, a2, a3, fun r hr2 => pj_R_tw 1257 (pj_csh_s _ _ rfl) q36 rfl (a4 r hr2)⟩
  by_cases q37 : x.toInt = 37
  · obtain ⟨G', dc, ds, a1, a2, a3, a4⟩ := lw_37 (xs := xs) hk G v4 hG h0 h5 mc ms
    exact ⟨G', dc, ds, a1, a2, a3, fun r hr2 => pj_R_tw 1306 (pj_csh_s _ _ rfl) q37 rfl (a4 r hr2)⟩
  by_cases q38 : x.toInt = 38
  · obtain ⟨G', dc, ds, a1, a2, a3, a4⟩ := lw_38 (xs := xs) hk G v4 hG h0 h5 mc ms
    exact ⟨G', dc, ds, a1, a2, a3, fun r hr2 => pj_R_tw 1331 (pj_csh_s _ _ rfl) q38 rfl (a4 r hr2)⟩
  by_cases q39 : x.toInt = 39
  · obtain ⟨G', dc, ds, a1, a2, a3, a4⟩ := lw_39 (xs := xs) hk G v4 hG h0 h5 mc ms
    exact ⟨G', dc, ds, a1, a2, a3, fun r hr2 => pj_R_tw 1344 (pj_csh_s _ _ rfl) q39 rfl (a4 r hr2)⟩
  by_cases q40 : x.toInt = 40
  · obtain ⟨G', dc, ds, a1, a2, a3, a4⟩ := lw_40 (xs := xs) hk G v4 hG h0 h5 mc ms
    exact ⟨G', dc, ds, a1, a2, a3, fun r hr2 => pj_R_tw 1381 (pj_csh_s _ _ rfl) q40 rfl (a4 r hr2)⟩
  by_cases q41 : x.toInt = 41
  · obtain ⟨G', dc, ds, a1, a2, a3, a4⟩ := lw_41 (xs := xs) hk G v4 hG h0 h5 mc ms
    exact ⟨G', dc, ds, a1, a2, a3, fun r hr2 => pj_R_tw 1406 (pj_csh_s _ _ rfl) q41 rfl (a4 r hr2)⟩
  by_cases q42 : x.toInt = 42
  · obtain ⟨G', dc, ds, a1, a2, a3, a4⟩ := lw_42 (xs := xs) hk G v4 hG h0 h5 mc ms
    exact ⟨G', dc, ds, a1, a2, a3, fun r hr2 => pj_R_tw 1431 (pj_csh_s _ _ rfl) q42 rfl (a4 r hr2)⟩
  by_cases q43 : x.toInt = 43
  · obtain ⟨G', dc, ds, a1, a2, a3, a4⟩ := lw_43 (xs := xs) hk G v4 hG h0 h5 mc ms
    exact ⟨G', dc, ds, a1, a2, a3, fun r hr2 => pj_R_tw 1456 (pj_csh_s _ _ rfl) q43 rfl (a4 r hr2)⟩
  refine ⟨G, 0, 0, ⟨hG.1, hG.2.1, hG.2.2.1, hG.2.2.2.1, hG.2.2.2.2.1, mr_Nk hG.2.2.2.2.2.1 rfl, hG.2.2.2.2.2.2.1, mr_En hG.2.2.2.2.2.2.2⟩, by decide, by decide, fun r hr2 => ?_⟩
  exact pj_R_td 1484 (pj_csh_s _ _ rfl) (by omega) rfl hr2
set_option maxRecDepth 100000 in
set_option maxHeartbeats 8000000 in
theorem pj_loop {k : Nat} {xs : Nat → Int32} (hk : k ≤ 2560) : ∀ (n : Nat) (G : pj_G) (v4 : Int32) (mc ms : Nat), pj_LI v4.toInt G → 0 ≤ v4.toInt → v4.toInt ≤ 2565 → (k : Int) - v4.toInt ≤ n → ∃ (G' : pj_G) (mc' ms' : Nat), pj_R pj_lz (k + 1) xs pj_law (G, 23, [(4, .int v4), (3, .ref 203), (2, .ref 171), (1, .ref 1), (0, .ref 0)], [], mc, ms) (some (.int 1), G', mc', ms') ∧ mc' ≤ mc + n ∧ ms' ≤ ms + 6 * n := by
  have ck : (Int32.ofNat k).toInt = k := Int32.toInt_ofNat_of_lt (by omega)
  have c5 : (Int32.ofInt 5).toInt = 5 := by decide
  have e5 : (Int32.ofNat k - Int32.ofInt 5).toInt = (k : Int) - 5 := by
    rw [pj_subI (by rw [ck, c5]; omega) (by rw [ck, c5]; omega), ck, c5]
  have hend : ∀ (G : pj_G) (v4 : Int32) (mc ms : Nat), (k : Int) - 5 < v4.toInt → pj_R pj_lz (k + 1) xs pj_law (G, 23, [(4, .int v4), (3, .ref 203), (2, .ref 171), (1, .ref 1), (0, .ref 0)], [], mc, ms) (some (.int 1), G, mc, ms) := by
    intro G v4 mc ms h
    refine pj_R_tz (M' := pj_csh) rfl pj_csh_s (G, 26, [(4, .int v4), (3, .ref 203), (2, .ref 171), (1, .ref 1), (0, .ref 0)], [.ref 0, .int v4], mc, ms) 26 3 (fun _ => rfl) ?_
    refine pj_R_sa (pj_csh_s _ _ rfl) ?_
    refine pj_R_tz (M' := pj_csh) rfl pj_csh_s (G, 29, [(4, .int v4), (3, .ref 203), (2, .ref 171), (1, .ref 1), (0, .ref 0)], [.int (Int32.ofNat k - Int32.ofInt 5), .int v4], mc, ms) 29 3 (fun _ => rfl) ?_
    refine pj_R_icT 1490 (pj_csh_s _ _ rfl) rfl (pj_b_gtT (by omega)) ?_
    refine pj_R_tz (M' := pj_csh) rfl pj_csh_s (G, 1491, [(4, .int v4), (3, .ref 203), (2, .ref 171), (1, .ref 1), (0, .ref 0)], [.int (Int32.ofInt 1)], mc, ms) 1491 2 (fun _ => rfl) ?_
    exact pj_R_rt (pj_csh_s _ _ rfl) rfl
  intro n
  induction n with
  | zero =>
    intro G v4 mc ms hG h0 h1 h2
    exact ⟨G, mc, ms, hend G v4 mc ms (by omega), by omega, by omega⟩
  | succ n ih =>
    intro G v4 mc ms hG h0 h1 h2
    by_cases h5 : v4.toInt + 5 ≤ k
    · obtain ⟨G1, dc, ds, hG1, hdc, hds, hstep⟩ := pj_turn (xs := xs) hk G v4 hG h0 h5 mc ms
      have e45 : (v4 + Int32.ofInt 5).toInt = v4.toInt + 5 := pj_ix5 (by decide) h0 (by omega) (by decide) (by decide)
      obtain ⟨G2, mc2, ms2, hrun, hm1, hm2⟩ := ih G1 (v4 + Int32.ofInt 5) (mc + dc) (ms + ds) (by rw [e45]; exact hG1) (by omega) (by omega) (by omega)
      refine ⟨G2, mc2, ms2, ?_, by omega, by omega⟩
      refine pj_R_tz (M' := pj_csh) rfl pj_csh_s (G, 26, [(4, .int v4), (3, .ref 203), (2, .ref 171), (1, .ref 1), (0, .ref 0)], [.ref 0, .int v4], mc, ms) 26 3 (fun _ => rfl) ?_
      refine pj_R_sa (pj_csh_s _ _ rfl) ?_
      refine pj_R_tz (M' := pj_csh) rfl pj_csh_s (G, 29, [(4, .int v4), (3, .ref 203), (2, .ref 171), (1, .ref 1), (0, .ref 0)], [.int (Int32.ofNat k - Int32.ofInt 5), .int v4], mc, ms) 29 3 (fun _ => rfl) ?_
      refine pj_R_icF (pj_csh_s _ _ rfl) (pj_b_gtF (by omega)) ?_
      refine pj_R_tz (M' := pj_csh) rfl pj_csh_s (G, 35, [(4, .int v4), (3, .ref 203), (2, .ref 171), (1, .ref 1), (0, .ref 0)], [.int v4, .ref 0], mc, ms) 35 3 (fun _ => rfl) ?_
      refine pj_R_sl (pj_csh_s _ _ rfl) (by omega) (by omega) ?_
      refine pj_R_tz (M' := pj_csh) rfl pj_csh_s (G, 39, [(4, .int v4), (3, .ref 203), (2, .ref 171), (1, .ref 1), (0, .ref 0)], [.int (xs v4.toNatClampNeg &&& (Int8.ofInt 63).toInt32)], mc, ms) 39 3 (fun _ => rfl) ?_
      refine hstep _ ?_
      refine pj_R_tz (M' := pj_csh) rfl pj_csh_s (G1, 23, [(4, .int (v4 + Int32.ofInt 5)), (3, .ref 203), (2, .ref 171), (1, .ref 1), (0, .ref 0)], [], mc + dc, ms + ds) 23 3 (fun _ => rfl) ?_
      exact hrun
    · exact ⟨G, mc, ms, hend G v4 mc ms (by omega), by omega, by omega⟩
