def pj_cs0 : pj_M := (pj_law.1, pj_law.2.1, 8, some .boolean, pj_law.2.2.2.2.1, [(228, .aload_n 1, 1, [], 0), (229, .aload_n 0, 1, [], 0), (230, .iload 4, 2, [], 0), (232, .iconst 1, 1, [], 0), (233, .iadd, 1, [], 0), (234, .iaload, 1, [], 0), (235, .invokevirtual 29, 3, [0, 2, 117, 11, 477], 0), (238, .pop, 1, [], 0), (239, .aload_n 2, 1, [], 0), (240, .aload_n 0, 1, [], 0), (241, .iload 4, 2, [], 0), (243, .iconst 1, 1, [], 0), (244, .iadd, 1, [], 0), (245, .iaload, 1, [], 0), (246, .invokevirtual 33, 3, [0, 2, 179, 12, 1561], 0), (249, .pop, 1, [], 0), (250, .goto 1234, 3, [1484], 0)])
set_option maxRecDepth 100000 in
theorem pj_cs0_ok : pj_cs0.2.2.2.2.2.all (fun q => decide (pj_find pj_law.2.2.2.2.2 q.1 = some q.2)) = true := by decide +kernel
theorem pj_cs0_s : ∀ pc q, pj_find pj_cs0.2.2.2.2.2 pc = some q → pj_find pj_law.2.2.2.2.2 pc = some q := fun pc q hq => of_decide_eq_true (List.all_eq_true.mp pj_cs0_ok (pc, q) (pj_find_s hq))
set_option maxRecDepth 100000 in
set_option maxHeartbeats 8000000 in
theorem lw_0 {k : Nat} {xs : Nat → Int32} (hk : k ≤ 2560) (G : pj_G) (v4 : Int32) (hG : pj_LI v4.toInt G) (h0 : 0 ≤ v4.toInt) (h5 : v4.toInt + 5 ≤ k) (mc ms : Nat) : ∃ (G' : pj_G) (dc ds : Nat), pj_LI (v4.toInt + 5) G' ∧ dc ≤ 1 ∧ ds ≤ 6 ∧ ∀ r, pj_R pj_lz (k + 1) xs pj_law (G', 1484, [(4, .int v4), (3, .ref 203), (2, .ref 171), (1, .ref 1), (0, .ref 0)], [], mc + dc, ms + ds) r → pj_R pj_lz (k + 1) xs pj_law (G, 228, [(4, .int v4), (3, .ref 203), (2, .ref 171), (1, .ref 1), (0, .ref 0)], [], mc, ms) r := by
  have ix1 : (v4 + Int32.ofInt 1).toInt = v4.toInt + 1 := pj_ix5 (by decide) h0 (by omega) (by decide) (by decide)
  have ix2 : (v4 + Int32.ofInt 2).toInt = v4.toInt + 2 := pj_ix5 (by decide) h0 (by omega) (by decide) (by decide)
  have ix3 : (v4 + Int32.ofInt 3).toInt = v4.toInt + 3 := pj_ix5 (by decide) h0 (by omega) (by decide) (by decide)
  have ix4 : (v4 + Int32.ofInt 4).toInt = v4.toInt + 4 := pj_ix5 (by decide) h0 (by omega) (by decide) (by decide)
  obtain ⟨hI, hR, hU, hT, hF, hN, hK, hE6⟩ := hG
  have hE1 := hT.1
  have hE2 := hT.2
  obtain ⟨v1, G1, q1, y1, rfl, i1, j1, -, e1, f1⟩ := ct_117tx G hI (xs (v4 + Int32.ofInt 1).toNatClampNeg) 
  replace e1 := e1 _ rfl
  have g1 : ∀ b, 171 ≤ b → b < 203 → pj_get G1 b = pj_get G b := fun b h1 h2 => j1.2.1.1 b (pj_nc h1 h2 rfl)
  have hR1 : pj_RI G1 := pj_RI_g g1 hR
  have hU1 : (pj_fi G1 171 30).toInt ≤ 15 := pj_UN_g g1 hU
  obtain ⟨v2, G2, q2, y2, rfl, i2, j2, -, e2, f2⟩ := ct_179tx G1 i1 (xs (v4 + Int32.ofInt 1).toNatClampNeg) 
  replace e2 := e2 _ rfl
  have a2 : (pj_fi G1 171 16).toInt = (pj_fi G 171 16).toInt := by rw [pj_fi_g (g1 171 (by decide) (by decide))]
  have a3 : (pj_fi G2 2 1).toInt = (pj_fi G1 2 1).toInt := by rw [show pj_fi G2 2 1 = pj_fi G1 2 1 from j2.1 (2, 1) (by decide)]
  refine ⟨G2, 0, 0, ⟨i2, (pj_RI_k hR1 j2 rfl), (by have q9 : pj_fi G2 171 30 = pj_fi G1 171 30 := j2.1 (171, 30) (by decide); rw [q9]; exact hU1), ⟨by omega, by have z := tx_sign hI hE1 hE2 (xs (v4 + Int32.ofInt 1).toNatClampNeg); rw [← f1] at z; dsimp only at z; rw [← f2] at z; exact z⟩, mr_FR (mr_FX (mr_FG (mr_FC hF j1 rfl rfl) g1) j2 rfl rfl) j2 rfl, mr_Nk hN ((j2.1 (171, 7) (by decide)).trans (mr_gi (g1 171 (by decide) (by decide)))), mr_KR (mr_KX (mr_KG (mr_KC hK j1 rfl rfl) g1) j2 rfl rfl) j2 rfl, mr_En (mr_ER (mr_EC (mr_EG (mr_EC hE6 hI j1 rfl) i1 g1) i1 j2 rfl) i2 j2 rfl)⟩, by decide, by decide, fun r hr => ?_⟩
  refine pj_R_tz (M' := pj_cs0) rfl pj_cs0_s (G, 234, [(4, .int v4), (3, .ref 203), (2, .ref 171), (1, .ref 1), (0, .ref 0)], [.int (v4 + (Int32.ofInt 1)), .ref 0, .ref 1], mc, ms) 234 6 (fun _ => rfl) ?_
  refine pj_R_sl (pj_cs0_s _ _ rfl) (by omega) (by omega) ?_
  show pj_R _ _ _ _ (G, 235, [(4, .int v4), (3, .ref 203), (2, .ref 171), (1, .ref 1), (0, .ref 0)], [.int (xs (v4 + (Int32.ofInt 1)).toNatClampNeg), .ref 1], mc, ms) _
  refine pj_R_ca pj_lz_mon (vs := [.ref 1, .int (xs (v4 + (Int32.ofInt 1)).toNatClampNeg)]) (S2 := [.int y1]) (pj_cs0_s _ _ rfl) (fun _ => rfl) ⟨Nat.le_of_ble_eq_true rfl, Nat.le_of_ble_eq_true rfl, pj_T_rcv hI rfl⟩ ⟨rfl, rfl, rfl⟩ (pj_E_lz (by decide) (by decide) q1) ?_
  show pj_R _ _ _ _ (G1, 238, [(4, .int v4), (3, .ref 203), (2, .ref 171), (1, .ref 1), (0, .ref 0)], [.int y1], mc, ms) _
  refine pj_R_tz (M' := pj_cs0) rfl pj_cs0_s (G1, 245, [(4, .int v4), (3, .ref 203), (2, .ref 171), (1, .ref 1), (0, .ref 0)], [.int (v4 + (Int32.ofInt 1)), .ref 0, .ref 171], mc, ms) 245 7 (fun _ => rfl) ?_
  refine pj_R_sl (pj_cs0_s _ _ rfl) (by omega) (by omega) ?_
  show pj_R _ _ _ _ (G1, 246, [(4, .int v4), (3, .ref 203), (2, .ref 171), (1, .ref 1), (0, .ref 0)], [.int (xs (v4 + (Int32.ofInt 1)).toNatClampNeg), .ref 171], mc, ms) _
  refine pj_R_ca pj_lz_mon (vs := [.ref 171, .int (xs (v4 + (Int32.ofInt 1)).toNatClampNeg)]) (S2 := [.int y2]) (pj_cs0_s _ _ rfl) (fun _ => rfl) ⟨Nat.le_of_ble_eq_true rfl, Nat.le_of_ble_eq_true rfl, pj_T_rcv i1 rfl⟩ ⟨rfl, rfl, rfl⟩ (pj_E_lz (by decide) (by decide) q2) ?_
  show pj_R _ _ _ _ (G2, 249, [(4, .int v4), (3, .ref 203), (2, .ref 171), (1, .ref 1), (0, .ref 0)], [.int y2], mc, ms) _
  refine pj_R_tz (M' := pj_cs0) rfl pj_cs0_s (G2, 1484, [(4, .int v4), (3, .ref 203), (2, .ref 171), (1, .ref 1), (0, .ref 0)], [], mc, ms) 1484 3 (fun _ => rfl) ?_
  exact hr
def pj_cs1 : pj_M := (pj_law.1, pj_law.2.1, 8, some .boolean, pj_law.2.2.2.2.1, [(253, .aload_n 1, 1, [], 0), (254, .aload_n 0, 1, [], 0), (255, .iload 4, 2, [], 0), (257, .iconst 1, 1, [], 0), (258, .iadd, 1, [], 0), (259, .iaload, 1, [], 0), (260, .invokevirtual 34, 3, [0, 2, 118, 11, 485], 0), (263, .pop, 1, [], 0), (264, .aload_n 2, 1, [], 0), (265, .aload_n 0, 1, [], 0), (266, .iload 4, 2, [], 0), (268, .iconst 1, 1, [], 0), (269, .iadd, 1, [], 0), (270, .iaload, 1, [], 0), (271, .invokevirtual 38, 3, [0, 2, 180, 12, 1565], 0), (274, .pop, 1, [], 0), (275, .goto 1209, 3, [1484], 0)])
set_option maxRecDepth 100000 in
theorem pj_cs1_ok : pj_cs1.2.2.2.2.2.all (fun q => decide (pj_find pj_law.2.2.2.2.2 q.1 = some q.2)) = true := by decide +kernel
theorem pj_cs1_s : ∀ pc q, pj_find pj_cs1.2.2.2.2.2 pc = some q → pj_find pj_law.2.2.2.2.2 pc = some q := fun pc q hq => of_decide_eq_true (List.all_eq_true.mp pj_cs1_ok (pc, q) (pj_find_s hq))
set_option maxRecDepth 100000 in
set_option maxHeartbeats 8000000 in
theorem lw_1 {k : Nat} {xs : Nat → Int32} (hk : k ≤ 2560) (G : pj_G) (v4 : Int32) (hG : pj_LI v4.toInt G) (h0 : 0 ≤ v4.toInt) (h5 : v4.toInt + 5 ≤ k) (mc ms : Nat) : ∃ (G' : pj_G) (dc ds : Nat), pj_LI (v4.toInt + 5) G' ∧ dc ≤ 1 ∧ ds ≤ 6 ∧ ∀ r, pj_R pj_lz (k + 1) xs pj_law (G', 1484, [(4, .int v4), (3, .ref 203), (2, .ref 171), (1, .ref 1), (0, .ref 0)], [], mc + dc, ms + ds) r → pj_R pj_lz (k + 1) xs pj_law (G, 253, [(4, .int v4), (3, .ref 203), (2, .ref 171), (1, .ref 1), (0, .ref 0)], [], mc, ms) r := by
  have ix1 : (v4 + Int32.ofInt 1).toInt = v4.toInt + 1 := pj_ix5 (by decide) h0 (by omega) (by decide) (by decide)
  have ix2 : (v4 + Int32.ofInt 2).toInt = v4.toInt + 2 := pj_ix5 (by decide) h0 (by omega) (by decide) (by decide)
  have ix3 : (v4 + Int32.ofInt 3).toInt = v4.toInt + 3 := pj_ix5 (by decide) h0 (by omega) (by decide) (by decide)
  have ix4 : (v4 + Int32.ofInt 4).toInt = v4.toInt + 4 := pj_ix5 (by decide) h0 (by omega) (by decide) (by decide)
  obtain ⟨hI, hR, hU, hT, hF, hN, hK, hE6⟩ := hG
  have hE1 := hT.1
  have hE2 := hT.2
  obtain ⟨v1, G1, q1, y1, rfl, i1, j1, -, e1, f1⟩ := ct_118tx G hI (xs (v4 + Int32.ofInt 1).toNatClampNeg) 
  replace e1 := e1 _ rfl
  have g1 : ∀ b, 171 ≤ b → b < 203 → pj_get G1 b = pj_get G b := fun b h1 h2 => j1.2.1.1 b (pj_nc h1 h2 rfl)
  have hR1 : pj_RI G1 := pj_RI_g g1 hR
  have hU1 : (pj_fi G1 171 30).toInt ≤ 15 := pj_UN_g g1 hU
  obtain ⟨v2, G2, q2, y2, rfl, i2, j2, -, e2, f2⟩ := ct_180tx G1 i1 (xs (v4 + Int32.ofInt 1).toNatClampNeg) 
  replace e2 := e2 _ rfl
  have a2 : (pj_fi G1 171 16).toInt = (pj_fi G 171 16).toInt := by rw [pj_fi_g (g1 171 (by decide) (by decide))]
  have a3 : (pj_fi G2 2 1).toInt = (pj_fi G1 2 1).toInt := by rw [show pj_fi G2 2 1 = pj_fi G1 2 1 from j2.1 (2, 1) (by decide)]
  refine ⟨G2, 0, 0, ⟨i2, (pj_RI_k hR1 j2 rfl), (by have q9 : pj_fi G2 171 30 = pj_fi G1 171 30 := j2.1 (171, 30) (by decide); rw [q9]; exact hU1), ⟨by omega, fun j hj => by rw [j2.2.2 3 (by decide) j, j2.2.2 180 (by decide) j, j1.2.2 3 (by decide) j, j1.2.2 180 (by decide) j]; exact hE2 j (by omega)⟩, mr_FR (mr_FX (mr_FG (mr_FC hF j1 rfl rfl) g1) j2 rfl rfl) j2 rfl, mr_Nk hN ((j2.1 (171, 7) (by decide)).trans (mr_gi (g1 171 (by decide) (by decide)))), mr_KR (mr_KX (mr_KG (mr_KC hK j1 rfl rfl) g1) j2 rfl rfl) j2 rfl, mr_En (mr_ER (mr_EC (mr_EG (mr_EC hE6 hI j1 rfl) i1 g1) i1 j2 rfl) i2 j2 rfl)⟩, by decide, by decide, fun r hr => ?_⟩
  refine pj_R_tz (M' := pj_cs1) rfl pj_cs1_s (G, 259, [(4, .int v4), (3, .ref 203), (2, .ref 171), (1, .ref 1), (0, .ref 0)], [.int (v4 + (Int32.ofInt 1)), .ref 0, .ref 1], mc, ms) 259 6 (fun _ => rfl) ?_
  refine pj_R_sl (pj_cs1_s _ _ rfl) (by omega) (by omega) ?_
  show pj_R _ _ _ _ (G, 260, [(4, .int v4), (3, .ref 203), (2, .ref 171), (1, .ref 1), (0, .ref 0)], [.int (xs (v4 + (Int32.ofInt 1)).toNatClampNeg), .ref 1], mc, ms) _
  refine pj_R_ca pj_lz_mon (vs := [.ref 1, .int (xs (v4 + (Int32.ofInt 1)).toNatClampNeg)]) (S2 := [.int y1]) (pj_cs1_s _ _ rfl) (fun _ => rfl) ⟨Nat.le_of_ble_eq_true rfl, Nat.le_of_ble_eq_true rfl, pj_T_rcv hI rfl⟩ ⟨rfl, rfl, rfl⟩ (pj_E_lz (by decide) (by decide) q1) ?_
  show pj_R _ _ _ _ (G1, 263, [(4, .int v4), (3, .ref 203), (2, .ref 171), (1, .ref 1), (0, .ref 0)], [.int y1], mc, ms) _
  refine pj_R_tz (M' := pj_cs1) rfl pj_cs1_s (G1, 270, [(4, .int v4), (3, .ref 203), (2, .ref 171), (1, .ref 1), (0, .ref 0)], [.int (v4 + (Int32.ofInt 1)), .ref 0, .ref 171], mc, ms) 270 7 (fun _ => rfl) ?_
  refine pj_R_sl (pj_cs1_s _ _ rfl) (by omega) (by omega) ?_
  show pj_R _ _ _ _ (G1, 271, [(4, .int v4), (3, .ref 203), (2, .ref 171), (1, .ref 1), (0, .ref 0)], [.int (xs (v4 + (Int32.ofInt 1)).toNatClampNeg), .ref 171], mc, ms) _
  refine pj_R_ca pj_lz_mon (vs := [.ref 171, .int (xs (v4 + (Int32.ofInt 1)).toNatClampNeg)]) (S2 := [.int y2]) (pj_cs1_s _ _ rfl) (fun _ => rfl) ⟨Nat.le_of_ble_eq_true rfl, Nat.le_of_ble_eq_true rfl, pj_T_rcv i1 rfl⟩ ⟨rfl, rfl, rfl⟩ (pj_E_lz (by decide) (by decide) q2) ?_
  show pj_R _ _ _ _ (G2, 274, [(4, .int v4), (3, .ref 203), (2, .ref 171), (1, .ref 1), (0, .ref 0)], [.int y2], mc, ms) _
  refine pj_R_tz (M' := pj_cs1) rfl pj_cs1_s (G2, 1484, [(4, .int v4), (3, .ref 203), (2, .ref 171), (1, .ref 1), (0, .ref 0)], [], mc, ms) 1484 3 (fun _ => rfl) ?_
  exact hr
def pj_cs2 : pj_M := (pj_law.1, pj_law.2.1, 8, some .boolean, pj_law.2.2.2.2.1, [(278, .aload_n 1, 1, [], 0), (279, .invokevirtual 39, 3, [0, 1, 119, 11, 493], 0), (282, .pop, 1, [], 0), (283, .aload_n 2, 1, [], 0), (284, .invokevirtual 43, 3, [0, 1, 191, 12, 1572], 0), (287, .pop, 1, [], 0), (288, .goto 1196, 3, [1484], 0)])
set_option maxRecDepth 100000 in
theorem pj_cs2_ok : pj_cs2.2.2.2.2.2.all (fun q => decide (pj_find pj_law.2.2.2.2.2 q.1 = some q.2)) = true := by decide +kernel
theorem pj_cs2_s : ∀ pc q, pj_find pj_cs2.2.2.2.2.2 pc = some q → pj_find pj_law.2.2.2.2.2 pc = some q := fun pc q hq => of_decide_eq_true (List.all_eq_true.mp pj_cs2_ok (pc, q) (pj_find_s hq))
set_option maxRecDepth 100000 in
set_option maxHeartbeats 8000000 in
theorem lw_2 {k : Nat} {xs : Nat → Int32} (hk : k ≤ 2560) (G : pj_G) (v4 : Int32) (hG : pj_LI v4.toInt G) (h0 : 0 ≤ v4.toInt) (h5 : v4.toInt + 5 ≤ k) (mc ms : Nat) : ∃ (G' : pj_G) (dc ds : Nat), pj_LI (v4.toInt + 5) G' ∧ dc ≤ 1 ∧ ds ≤ 6 ∧ ∀ r, pj_R pj_lz (k + 1) xs pj_law (G', 1484, [(4, .int v4), (3, .ref 203), (2, .ref 171), (1, .ref 1), (0, .ref 0)], [], mc + dc, ms + ds) r → pj_R pj_lz (k + 1) xs pj_law (G, 278, [(4, .int v4), (3, .ref 203), (2, .ref 171), (1, .ref 1), (0, .ref 0)], [], mc, ms) r := by
  have ix1 : (v4 + Int32.ofInt 1).toInt = v4.toInt + 1 := pj_ix5 (by decide) h0 (by omega) (by decide) (by decide)
  have ix2 : (v4 + Int32.ofInt 2).toInt = v4.toInt + 2 := pj_ix5 (by decide) h0 (by omega) (by decide) (by decide)
  have ix3 : (v4 + Int32.ofInt 3).toInt = v4.toInt + 3 := pj_ix5 (by decide) h0 (by omega) (by decide) (by decide)
  have ix4 : (v4 + Int32.ofInt 4).toInt = v4.toInt + 4 := pj_ix5 (by decide) h0 (by omega) (by decide) (by decide)
  obtain ⟨hI, hR, hU, hT, hF, hN, hK, hE6⟩ := hG
  have hE1 := hT.1
  have hE2 := hT.2
  obtain ⟨v1, G1, q1, y1, rfl, i1, j1, -, e1, f1⟩ := ct_119tx G hI  
  have g1 : ∀ b, 171 ≤ b → b < 203 → pj_get G1 b = pj_get G b := fun b h1 h2 => j1.2.1.1 b (pj_nc h1 h2 rfl)
  have hR1 : pj_RI G1 := pj_RI_g g1 hR
  have hU1 : (pj_fi G1 171 30).toInt ≤ 15 := pj_UN_g g1 hU
  obtain ⟨v2, G2, q2, y2, rfl, i2, j2, -, e2, f2⟩ := ct_191tx G1 i1  hR1 hU1
  have a2 : (pj_fi G1 171 16).toInt = (pj_fi G 171 16).toInt := by rw [pj_fi_g (g1 171 (by decide) (by decide))]
  have a3 : (pj_fi G2 2 1).toInt = (pj_fi G1 2 1).toInt := by rw [show pj_fi G2 2 1 = pj_fi G1 2 1 from j2.1 (2, 1) (by decide)]
  have e22 := e2.2
  refine ⟨G2, 0, 0, ⟨i2, e2.1, (by have e9 := e2.2; omega), ⟨by omega, fun j hj => absurd hj (by omega)⟩, by have z := (mr_r2 hI i1 (mr_TR hT g1) (mr_FG hF g1)).2; rw [← f1] at z; dsimp only at z; rw [← f2] at z; exact mr_FX z j2 rfl rfl, (by have z := mr_k2 hI i1 hR1 hU1 (mr_TR hT g1) (mr_FG hF g1) (n := v4.toInt) (by omega) (show mr_N v4.toInt G1 from by unfold mr_N at hN ⊢; rw [mr_gi (g1 171 (by decide) (by decide))]; exact hN) (mr_KG hK g1); rw [← f1] at z; dsimp only at z; rw [← f2] at z; exact z.1), (by have z := mr_k2 hI i1 hR1 hU1 (mr_TR hT g1) (mr_FG hF g1) (n := v4.toInt) (by omega) (show mr_N v4.toInt G1 from by unfold mr_N at hN ⊢; rw [mr_gi (g1 171 (by decide) (by decide))]; exact hN) (mr_KG hK g1); rw [← f1] at z; dsimp only at z; rw [← f2] at z; exact mr_KX z.2 j2 rfl rfl), mr_EC (by have z := (mr_e2 (by omega) hI i1 (mr_TR hT g1) (mr_FG hF g1) hR1 hU1 (mr_EG hE6 hI g1)); rw [← f1] at z; dsimp only at z; rw [← f2] at z; exact z) i1 j2 rfl⟩, by decide, by decide, fun r hr => ?_⟩
  refine pj_R_tz (M' := pj_cs2) rfl pj_cs2_s (G, 279, [(4, .int v4), (3, .ref 203), (2, .ref 171), (1, .ref 1), (0, .ref 0)], [.ref 1], mc, ms) 279 2 (fun _ => rfl) ?_
  refine pj_R_ca pj_lz_mon (vs := [.ref 1]) (S2 := [.int y1]) (pj_cs2_s _ _ rfl) (fun _ => rfl) ⟨Nat.le_of_ble_eq_true rfl, Nat.le_of_ble_eq_true rfl, pj_T_rcv hI rfl⟩ ⟨rfl, rfl, rfl⟩ (pj_E_lz (by decide) (by decide) q1) ?_
  show pj_R _ _ _ _ (G1, 282, [(4, .int v4), (3, .ref 203), (2, .ref 171), (1, .ref 1), (0, .ref 0)], [.int y1], mc, ms) _
  refine pj_R_tz (M' := pj_cs2) rfl pj_cs2_s (G1, 284, [(4, .int v4), (3, .ref 203), (2, .ref 171), (1, .ref 1), (0, .ref 0)], [.ref 171], mc, ms) 284 3 (fun _ => rfl) ?_
  refine pj_R_ca pj_lz_mon (vs := [.ref 171]) (S2 := [.int y2]) (pj_cs2_s _ _ rfl) (fun _ => rfl) ⟨Nat.le_of_ble_eq_true rfl, Nat.le_of_ble_eq_true rfl, pj_T_rcv i1 rfl⟩ ⟨rfl, rfl, rfl⟩ (pj_E_lz (by decide) (by decide) q2) ?_
  show pj_R _ _ _ _ (G2, 287, [(4, .int v4), (3, .ref 203), (2, .ref 171), (1, .ref 1), (0, .ref 0)], [.int y2], mc, ms) _
  refine pj_R_tz (M' := pj_cs2) rfl pj_cs2_s (G2, 1484, [(4, .int v4), (3, .ref 203), (2, .ref 171), (1, .ref 1), (0, .ref 0)], [], mc, ms) 1484 3 (fun _ => rfl) ?_
  exact hr
def pj_cs3 : pj_M := (pj_law.1, pj_law.2.1, 8, some .boolean, pj_law.2.2.2.2.1, [(291, .aload_n 1, 1, [], 0), (292, .invokevirtual 44, 3, [0, 1, 120, 11, 560], 0), (295, .pop, 1, [], 0), (296, .aload_n 2, 1, [], 0), (297, .invokevirtual 47, 3, [0, 1, 195, 12, 1631], 0), (300, .pop, 1, [], 0), (301, .goto 1183, 3, [1484], 0)])
set_option maxRecDepth 100000 in
theorem pj_cs3_ok : pj_cs3.2.2.2.2.2.all (fun q => decide (pj_find pj_law.2.2.2.2.2 q.1 = some q.2)) = true := by decide +kernel
theorem pj_cs3_s : ∀ pc q, pj_find pj_cs3.2.2.2.2.2 pc = some q → pj_find pj_law.2.2.2.2.2 pc = some q := fun pc q hq => of_decide_eq_true (List.all_eq_true.mp pj_cs3_ok (pc, q) (pj_find_s hq))
set_option maxRecDepth 100000 in
set_option maxHeartbeats 8000000 in
theorem lw_3 {k : Nat} {xs : Nat → Int32} (hk : k ≤ 2560) (G : pj_G) (v4 : Int32) (hG : pj_LI v4.toInt G) (h0 : 0 ≤ v4.toInt) (h5 : v4.toInt + 5 ≤ k) (mc ms : Nat) : ∃ (G' : pj_G) (dc ds : Nat), pj_LI (v4.toInt + 5) G' ∧ dc ≤ 1 ∧ ds ≤ 6 ∧ ∀ r, pj_R pj_lz (k + 1) xs pj_law (G', 1484, [(4, .int v4), (3, .ref 203), (2, .ref 171), (1, .ref 1), (0, .ref 0)], [], mc + dc, ms + ds) r → pj_R pj_lz (k + 1) xs pj_law (G, 291, [(4, .int v4), (3, .ref 203), (2, .ref 171), (1, .ref 1), (0, .ref 0)], [], mc, ms) r := by
  have ix1 : (v4 + Int32.ofInt 1).toInt = v4.toInt + 1 := pj_ix5 (by decide) h0 (by omega) (by decide) (by decide)
  have ix2 : (v4 + Int32.ofInt 2).toInt = v4.toInt + 2 := pj_ix5 (by decide) h0 (by omega) (by decide) (by decide)
  have ix3 : (v4 + Int32.ofInt 3).toInt = v4.toInt + 3 := pj_ix5 (by decide) h0 (by omega) (by decide) (by decide)
  have ix4 : (v4 + Int32.ofInt 4).toInt = v4.toInt + 4 := pj_ix5 (by decide) h0 (by omega) (by decide) (by decide)
  obtain ⟨hI, hR, hU, hT, hF, hN, hK, hE6⟩ := hG
  have hE1 := hT.1
  have hE2 := hT.2
  obtain ⟨v1, G1, q1, y1, rfl, i1, j1, -, e1, f1⟩ := ct_120tx G hI  
  have g1 : ∀ b, 171 ≤ b → b < 203 → pj_get G1 b = pj_get G b := fun b h1 h2 => j1.2.1.1 b (pj_nc h1 h2 rfl)
  have hR1 : pj_RI G1 := pj_RI_g g1 hR
  have hU1 : (pj_fi G1 171 30).toInt ≤ 15 := pj_UN_g g1 hU
  obtain ⟨v2, G2, q2, y2, rfl, i2, j2, -, e2, f2⟩ := ct_195tx G1 i1  hU1
  have a2 : (pj_fi G1 171 16).toInt = (pj_fi G 171 16).toInt := by rw [pj_fi_g (g1 171 (by decide) (by decide))]
  have a3 : (pj_fi G2 2 1).toInt = (pj_fi G1 2 1).toInt := by rw [show pj_fi G2 2 1 = pj_fi G1 2 1 from j2.1 (2, 1) (by decide)]
  refine ⟨G2, 0, 0, ⟨i2, (pj_RI_k hR1 j2 rfl), (by omega), ⟨by omega, fun j hj => absurd hj (by omega)⟩, by have z := (mr_r3 hI i1 hU1 (mr_TR hT g1) (mr_FG hF g1)).2; rw [← f1] at z; dsimp only at z; rw [← f2] at z; exact mr_FX z j2 rfl rfl, (by have z := mr_k3 hI i1 hU1 (mr_TR hT g1) (mr_FG hF g1) (n := v4.toInt) (by omega) (show mr_N v4.toInt G1 from by unfold mr_N at hN ⊢; rw [mr_gi (g1 171 (by decide) (by decide))]; exact hN) (mr_KG hK g1); rw [← f1] at z; dsimp only at z; rw [← f2] at z; exact z.1), (by have z := mr_k3 hI i1 hU1 (mr_TR hT g1) (mr_FG hF g1) (n := v4.toInt) (by omega) (show mr_N v4.toInt G1 from by unfold mr_N at hN ⊢; rw [mr_gi (g1 171 (by decide) (by decide))]; exact hN) (mr_KG hK g1); rw [← f1] at z; dsimp only at z; rw [← f2] at z; exact mr_KX z.2 j2 rfl rfl), mr_EC (by have z := (mr_e3 (by omega) hI i1 (mr_TR hT g1) (mr_FG hF g1) (mr_KG hK g1) hU1 (mr_EG hE6 hI g1)); rw [← f1] at z; dsimp only at z; rw [← f2] at z; exact z) i1 j2 rfl⟩, by decide, by decide, fun r hr => ?_⟩
  refine pj_R_tz (M' := pj_cs3) rfl pj_cs3_s (G, 292, [(4, .int v4), (3, .ref 203), (2, .ref 171), (1, .ref 1), (0, .ref 0)], [.ref 1], mc, ms) 292 2 (fun _ => rfl) ?_
  refine pj_R_ca pj_lz_mon (vs := [.ref 1]) (S2 := [.int y1]) (pj_cs3_s _ _ rfl) (fun _ => rfl) ⟨Nat.le_of_ble_eq_true rfl, Nat.le_of_ble_eq_true rfl, pj_T_rcv hI rfl⟩ ⟨rfl, rfl, rfl⟩ (pj_E_lz (by decide) (by decide) q1) ?_
  show pj_R _ _ _ _ (G1, 295, [(4, .int v4), (3, .ref 203), (2, .ref 171), (1, .ref 1), (0, .ref 0)], [.int y1], mc, ms) _
  refine pj_R_tz (M' := pj_cs3) rfl pj_cs3_s (G1, 297, [(4, .int v4), (3, .ref 203), (2, .ref 171), (1, .ref 1), (0, .ref 0)], [.ref 171], mc, ms) 297 3 (fun _ => rfl) ?_
  refine pj_R_ca pj_lz_mon (vs := [.ref 171]) (S2 := [.int y2]) (pj_cs3_s _ _ rfl) (fun _ => rfl) ⟨Nat.le_of_ble_eq_true rfl, Nat.le_of_ble_eq_true rfl, pj_T_rcv i1 rfl⟩ ⟨rfl, rfl, rfl⟩ (pj_E_lz (by decide) (by decide) q2) ?_
  show pj_R _ _ _ _ (G2, 300, [(4, .int v4), (3, .ref 203), (2, .ref 171), (1, .ref 1), (0, .ref 0)], [.int y2], mc, ms) _
  refine pj_R_tz (M' := pj_cs3) rfl pj_cs3_s (G2, 1484, [(4, .int v4), (3, .ref 203), (2, .ref 171), (1, .ref 1), (0, .ref 0)], [], mc, ms) 1484 3 (fun _ => rfl) ?_
  exact hr
def pj_cs4 : pj_M := (pj_law.1, pj_law.2.1, 8, some .boolean, pj_law.2.2.2.2.1, [(304, .aload_n 1, 1, [], 0), (305, .invokevirtual 48, 3, [0, 1, 121, 11, 577], 0), (308, .pop, 1, [], 0), (309, .aload_n 2, 1, [], 0), (310, .invokevirtual 51, 3, [0, 1, 196, 12, 1643], 0), (313, .pop, 1, [], 0), (314, .goto 1170, 3, [1484], 0)])
set_option maxRecDepth 100000 in
theorem pj_cs4_ok : pj_cs4.2.2.2.2.2.all (fun q => decide (pj_find pj_law.2.2.2.2.2 q.1 = some q.2)) = true := by decide +kernel
theorem pj_cs4_s : ∀ pc q, pj_find pj_cs4.2.2.2.2.2 pc = some q → pj_find pj_law.2.2.2.2.2 pc = some q := fun pc q hq => of_decide_eq_true (List.all_eq_true.mp pj_cs4_ok (pc, q) (pj_find_s hq))
set_option maxRecDepth 100000 in
set_option maxHeartbeats 8000000 in
theorem lw_4 {k : Nat} {xs : Nat → Int32} (hk : k ≤ 2560) (G : pj_G) (v4 : Int32) (hG : pj_LI v4.toInt G) (h0 : 0 ≤ v4.toInt) (h5 : v4.toInt + 5 ≤ k) (mc ms : Nat) : ∃ (G' : pj_G) (dc ds : Nat), pj_LI (v4.toInt + 5) G' ∧ dc ≤ 1 ∧ ds ≤ 6 ∧ ∀ r, pj_R pj_lz (k + 1) xs pj_law (G', 1484, [(4, .int v4), (3, .ref 203), (2, .ref 171), (1, .ref 1), (0, .ref 0)], [], mc + dc, ms + ds) r → pj_R pj_lz (k + 1) xs pj_law (G, 304, [(4, .int v4), (3, .ref 203), (2, .ref 171), (1, .ref 1), (0, .ref 0)], [], mc, ms) r := by
  have ix1 : (v4 + Int32.ofInt 1).toInt = v4.toInt + 1 := pj_ix5 (by decide) h0 (by omega) (by decide) (by decide)
  have ix2 : (v4 + Int32.ofInt 2).toInt = v4.toInt + 2 := pj_ix5 (by decide) h0 (by omega) (by decide) (by decide)
  have ix3 : (v4 + Int32.ofInt 3).toInt = v4.toInt + 3 := pj_ix5 (by decide) h0 (by omega) (by decide) (by decide)
  have ix4 : (v4 + Int32.ofInt 4).toInt = v4.toInt + 4 := pj_ix5 (by decide) h0 (by omega) (by decide) (by decide)
  obtain ⟨hI, hR, hU, hT, hF, hN, hK, hE6⟩ := hG
  have hE1 := hT.1
  have hE2 := hT.2
  obtain ⟨v1, G1, q1, y1, rfl, i1, j1, -, e1, f1⟩ := ct_121tx G hI  
  have g1 : ∀ b, 171 ≤ b → b < 203 → pj_get G1 b = pj_get G b := fun b h1 h2 => j1.2.1.1 b (pj_nc h1 h2 rfl)
  have hR1 : pj_RI G1 := pj_RI_g g1 hR
  have hU1 : (pj_fi G1 171 30).toInt ≤ 15 := pj_UN_g g1 hU
  obtain ⟨v2, G2, q2, y2, rfl, i2, j2, -, e2, f2⟩ := ct_196tx G1 i1  hU1
  have a2 : (pj_fi G1 171 16).toInt = (pj_fi G 171 16).toInt := by rw [pj_fi_g (g1 171 (by decide) (by decide))]
  have a3 : (pj_fi G2 2 1).toInt = (pj_fi G1 2 1).toInt := by rw [show pj_fi G2 2 1 = pj_fi G1 2 1 from j2.1 (2, 1) (by decide)]
  refine ⟨G2, 0, 0, ⟨i2, (pj_RI_k hR1 j2 rfl), (by omega), ⟨by omega, fun j hj => absurd hj (by omega)⟩, by have z := (mr_r4 hI i1 hU1 (mr_TR hT g1) (mr_FG hF g1)).2; rw [← f1] at z; dsimp only at z; rw [← f2] at z; exact mr_FX z j2 rfl rfl, (by have z := mr_k4 hI i1 hU1 (mr_TR hT g1) (mr_FG hF g1) (n := v4.toInt) (by omega) (show mr_N v4.toInt G1 from by unfold mr_N at hN ⊢; rw [mr_gi (g1 171 (by decide) (by decide))]; exact hN) (mr_KG hK g1); rw [← f1] at z; dsimp only at z; rw [← f2] at z; exact z.1), (by have z := mr_k4 hI i1 hU1 (mr_TR hT g1) (mr_FG hF g1) (n := v4.toInt) (by omega) (show mr_N v4.toInt G1 from by unfold mr_N at hN ⊢; rw [mr_gi (g1 171 (by decide) (by decide))]; exact hN) (mr_KG hK g1); rw [← f1] at z; dsimp only at z; rw [← f2] at z; exact mr_KX z.2 j2 rfl rfl), mr_EC (by have z := (mr_e4 (by omega) hI i1 (mr_TR hT g1) (mr_FG hF g1) (mr_KG hK g1) hU1 (mr_EG hE6 hI g1)); rw [← f1] at z; dsimp only at z; rw [← f2] at z; exact z) i1 j2 rfl⟩, by decide, by decide, fun r hr => ?_⟩
  refine pj_R_tz (M' := pj_cs4) rfl pj_cs4_s (G, 305, [(4, .int v4), (3, .ref 203), (2, .ref 171), (1, .ref 1), (0, .ref 0)], [.ref 1], mc, ms) 305 2 (fun _ => rfl) ?_
  refine pj_R_ca pj_lz_mon (vs := [.ref 1]) (S2 := [.int y1]) (pj_cs4_s _ _ rfl) (fun _ => rfl) ⟨Nat.le_of_ble_eq_true rfl, Nat.le_of_ble_eq_true rfl, pj_T_rcv hI rfl⟩ ⟨rfl, rfl, rfl⟩ (pj_E_lz (by decide) (by decide) q1) ?_
  show pj_R _ _ _ _ (G1, 308, [(4, .int v4), (3, .ref 203), (2, .ref 171), (1, .ref 1), (0, .ref 0)], [.int y1], mc, ms) _
  refine pj_R_tz (M' := pj_cs4) rfl pj_cs4_s (G1, 310, [(4, .int v4), (3, .ref 203), (2, .ref 171), (1, .ref 1), (0, .ref 0)], [.ref 171], mc, ms) 310 3 (fun _ => rfl) ?_
  refine pj_R_ca pj_lz_mon (vs := [.ref 171]) (S2 := [.int y2]) (pj_cs4_s _ _ rfl) (fun _ => rfl) ⟨Nat.le_of_ble_eq_true rfl, Nat.le_of_ble_eq_true rfl, pj_T_rcv i1 rfl⟩ ⟨rfl, rfl, rfl⟩ (pj_E_lz (by decide) (by decide) q2) ?_
  show pj_R _ _ _ _ (G2, 313, [(4, .int v4), (3, .ref 203), (2, .ref 171), (1, .ref 1), (0, .ref 0)], [.int y2], mc, ms) _
  refine pj_R_tz (M' := pj_cs4) rfl pj_cs4_s (G2, 1484, [(4, .int v4), (3, .ref 203), (2, .ref 171), (1, .ref 1), (0, .ref 0)], [], mc, ms) 1484 3 (fun _ => rfl) ?_
  exact hr
def pj_cs5 : pj_M := (pj_law.1, pj_law.2.1, 8, some .boolean, pj_law.2.2.2.2.1, [(317, .aload_n 1, 1, [], 0), (318, .invokevirtual 52, 3, [0, 1, 122, 11, 586], 0), (321, .pop, 1, [], 0), (322, .aload_n 2, 1, [], 0), (323, .invokevirtual 55, 3, [0, 1, 200, 12, 1647], 0), (326, .pop, 1, [], 0), (327, .goto 1157, 3, [1484], 0)])
set_option maxRecDepth 100000 in
theorem pj_cs5_ok : pj_cs5.2.2.2.2.2.all (fun q => decide (pj_find pj_law.2.2.2.2.2 q.1 = some q.2)) = true := by decide +kernel
theorem pj_cs5_s : ∀ pc q, pj_find pj_cs5.2.2.2.2.2 pc = some q → pj_find pj_law.2.2.2.2.2 pc = some q := fun pc q hq => of_decide_eq_true (List.all_eq_true.mp pj_cs5_ok (pc, q) (pj_find_s hq))
set_option maxRecDepth 100000 in
set_option maxHeartbeats 8000000 in
theorem lw_5 {k : Nat} {xs : Nat → Int32} (hk : k ≤ 2560) (G : pj_G) (v4 : Int32) (hG : pj_LI v4.toInt G) (h0 : 0 ≤ v4.toInt) (h5 : v4.toInt + 5 ≤ k) (mc ms : Nat) : ∃ (G' : pj_G) (dc ds : Nat), pj_LI (v4.toInt + 5) G' ∧ dc ≤ 1 ∧ ds ≤ 6 ∧ ∀ r, pj_R pj_lz (k + 1) xs pj_law (G', 1484, [(4, .int v4), (3, .ref 203), (2, .ref 171), (1, .ref 1), (0, .ref 0)], [], mc + dc, ms + ds) r → pj_R pj_lz (k + 1) xs pj_law (G, 317, [(4, .int v4), (3, .ref 203), (2, .ref 171), (1, .ref 1), (0, .ref 0)], [], mc, ms) r := by
  have ix1 : (v4 + Int32.ofInt 1).toInt = v4.toInt + 1 := pj_ix5 (by decide) h0 (by omega) (by decide) (by decide)
  have ix2 : (v4 + Int32.ofInt 2).toInt = v4.toInt + 2 := pj_ix5 (by decide) h0 (by omega) (by decide) (by decide)
  have ix3 : (v4 + Int32.ofInt 3).toInt = v4.toInt + 3 := pj_ix5 (by decide) h0 (by omega) (by decide) (by decide)
  have ix4 : (v4 + Int32.ofInt 4).toInt = v4.toInt + 4 := pj_ix5 (by decide) h0 (by omega) (by decide) (by decide)
  obtain ⟨hI, hR, hU, hT, hF, hN, hK, hE6⟩ := hG
  have hE1 := hT.1
  have hE2 := hT.2
  obtain ⟨v1, G1, q1, y1, rfl, i1, j1, -, e1, f1⟩ := ct_122tx G hI  
  have g1 : ∀ b, 171 ≤ b → b < 203 → pj_get G1 b = pj_get G b := fun b h1 h2 => j1.2.1.1 b (pj_nc h1 h2 rfl)
  have hR1 : pj_RI G1 := pj_RI_g g1 hR
  have hU1 : (pj_fi G1 171 30).toInt ≤ 15 := pj_UN_g g1 hU
  obtain ⟨v2, G2, q2, y2, rfl, i2, j2, -, e2, f2⟩ := ct_200tx G1 i1  hR1
  have a2 : (pj_fi G1 171 16).toInt = (pj_fi G 171 16).toInt := by rw [pj_fi_g (g1 171 (by decide) (by decide))]
  have a3 : (pj_fi G2 2 1).toInt = (pj_fi G1 2 1).toInt := by rw [show pj_fi G2 2 1 = pj_fi G1 2 1 from j2.1 (2, 1) (by decide)]
  have e22 := e2.2
  refine ⟨G2, 0, 0, ⟨i2, e2.1, (by have q9 : pj_fi G2 171 30 = pj_fi G1 171 30 := j2.1 (171, 30) (by decide); rw [q9]; exact hU1), ⟨by omega, fun j hj => absurd hj (by omega)⟩, mr_FR (mr_FX (mr_FG (mr_FC hF j1 rfl rfl) g1) j2 rfl rfl) j2 rfl, mr_Nk hN ((j2.1 (171, 7) (by decide)).trans (mr_gi (g1 171 (by decide) (by decide)))), mr_KR (mr_KX (mr_KG (mr_KC hK j1 rfl rfl) g1) j2 rfl rfl) j2 rfl, mr_EC (by have z := (mr_e5 hI i1 hR1 (mr_TR hT g1) (mr_EG hE6 hI g1)); rw [← f1] at z; dsimp only at z; rw [← f2] at z; exact z) i1 j2 rfl⟩, by decide, by decide, fun r hr => ?_⟩
  refine pj_R_tz (M' := pj_cs5) rfl pj_cs5_s (G, 318, [(4, .int v4), (3, .ref 203), (2, .ref 171), (1, .ref 1), (0, .ref 0)], [.ref 1], mc, ms) 318 2 (fun _ => rfl) ?_
  refine pj_R_ca pj_lz_mon (vs := [.ref 1]) (S2 := [.int y1]) (pj_cs5_s _ _ rfl) (fun _ => rfl) ⟨Nat.le_of_ble_eq_true rfl, Nat.le_of_ble_eq_true rfl, pj_T_rcv hI rfl⟩ ⟨rfl, rfl, rfl⟩ (pj_E_lz (by decide) (by decide) q1) ?_
  show pj_R _ _ _ _ (G1, 321, [(4, .int v4), (3, .ref 203), (2, .ref 171), (1, .ref 1), (0, .ref 0)], [.int y1], mc, ms) _
  refine pj_R_tz (M' := pj_cs5) rfl pj_cs5_s (G1, 323, [(4, .int v4), (3, .ref 203), (2, .ref 171), (1, .ref 1), (0, .ref 0)], [.ref 171], mc, ms) 323 3 (fun _ => rfl) ?_
  refine pj_R_ca pj_lz_mon (vs := [.ref 171]) (S2 := [.int y2]) (pj_cs5_s _ _ rfl) (fun _ => rfl) ⟨Nat.le_of_ble_eq_true rfl, Nat.le_of_ble_eq_true rfl, pj_T_rcv i1 rfl⟩ ⟨rfl, rfl, rfl⟩ (pj_E_lz (by decide) (by decide) q2) ?_
  show pj_R _ _ _ _ (G2, 326, [(4, .int v4), (3, .ref 203), (2, .ref 171), (1, .ref 1), (0, .ref 0)], [.int y2], mc, ms) _
  refine pj_R_tz (M' := pj_cs5) rfl pj_cs5_s (G2, 1484, [(4, .int v4), (3, .ref 203), (2, .ref 171), (1, .ref 1), (0, .ref 0)], [], mc, ms) 1484 3 (fun _ => rfl) ?_
  exact hr
def pj_cs6 : pj_M := (pj_law.1, pj_law.2.1, 8, some .boolean, pj_law.2.2.2.2.1, [(330, .aload_n 1, 1, [], 0), (331, .aload_n 0, 1, [], 0), (332, .iload 4, 2, [], 0), (334, .iconst 1, 1, [], 0), (335, .iadd, 1, [], 0), (336, .iaload, 1, [], 0), (337, .aload_n 0, 1, [], 0), (338, .iload 4, 2, [], 0), (340, .iconst 2, 1, [], 0), (341, .iadd, 1, [], 0), (342, .iaload, 1, [], 0), (343, .aload_n 3, 1, [], 0), (344, .invokestatic 56, 3, [9, 4, 1000, 0, 1275, 1276, 86, 1277], 0), (347, .istore 5, 2, [], 0), (349, .aload_n 2, 1, [], 0), (350, .aload_n 0, 1, [], 0), (351, .iload 4, 2, [], 0), (353, .iconst 1, 1, [], 0), (354, .iadd, 1, [], 0), (355, .iaload, 1, [], 0), (356, .aload_n 0, 1, [], 0), (357, .iload 4, 2, [], 0), (359, .iconst 2, 1, [], 0), (360, .iadd, 1, [], 0), (361, .iaload, 1, [], 0), (362, .invokevirtual 61, 3, [0, 3, 210, 12, 1667], 0), (365, .istore 6, 2, [], 0), (367, .goto 1117, 3, [1484], 0)])
set_option maxRecDepth 100000 in
theorem pj_cs6_ok : pj_cs6.2.2.2.2.2.all (fun q => decide (pj_find pj_law.2.2.2.2.2 q.1 = some q.2)) = true := by decide +kernel
theorem pj_cs6_s : ∀ pc q, pj_find pj_cs6.2.2.2.2.2 pc = some q → pj_find pj_law.2.2.2.2.2 pc = some q := fun pc q hq => of_decide_eq_true (List.all_eq_true.mp pj_cs6_ok (pc, q) (pj_find_s hq))
set_option maxRecDepth 100000 in
set_option maxHeartbeats 8000000 in
theorem lw_6 {k : Nat} {xs : Nat → Int32} (hk : k ≤ 2560) (G : pj_G) (v4 : Int32) (hG : pj_LI v4.toInt G) (h0 : 0 ≤ v4.toInt) (h5 : v4.toInt + 5 ≤ k) (mc ms : Nat) : ∃ (G' : pj_G) (dc ds : Nat), pj_LI (v4.toInt + 5) G' ∧ dc ≤ 1 ∧ ds ≤ 6 ∧ ∀ r, pj_R pj_lz (k + 1) xs pj_law (G', 1484, [(4, .int v4), (3, .ref 203), (2, .ref 171), (1, .ref 1), (0, .ref 0)], [], mc + dc, ms + ds) r → pj_R pj_lz (k + 1) xs pj_law (G, 330, [(4, .int v4), (3, .ref 203), (2, .ref 171), (1, .ref 1), (0, .ref 0)], [], mc, ms) r := by
  have ix1 : (v4 + Int32.ofInt 1).toInt = v4.toInt + 1 := pj_ix5 (by decide) h0 (by omega) (by decide) (by decide)
  have ix2 : (v4 + Int32.ofInt 2).toInt = v4.toInt + 2 := pj_ix5 (by decide) h0 (by omega) (by decide) (by decide)
  have ix3 : (v4 + Int32.ofInt 3).toInt = v4.toInt + 3 := pj_ix5 (by decide) h0 (by omega) (by decide) (by decide)
  have ix4 : (v4 + Int32.ofInt 4).toInt = v4.toInt + 4 := pj_ix5 (by decide) h0 (by omega) (by decide) (by decide)
  obtain ⟨hI, hR, hU, hT, hF, hN, hK, hE6⟩ := hG
  have hE1 := hT.1
  have hE2 := hT.2
  obtain ⟨y1, G1, dc, ds, z1, i1, j1, hdc, hds⟩ := pj_hz0 G hI (xs (v4 + Int32.ofInt 1).toNatClampNeg) (xs (v4 + Int32.ofInt 2).toNatClampNeg)
  have g1 : ∀ b, 171 ≤ b → b < 203 → pj_get G1 b = pj_get G b := fun b h1 h2 => j1.2.1.1 b (pj_nc h1 h2 rfl)
  have hR1 : pj_RI G1 := pj_RI_g g1 hR
  have hU1 : (pj_fi G1 171 30).toInt ≤ 15 := pj_UN_g g1 hU
  obtain ⟨v2, G2, q2, y2, rfl, i2, j2, -⟩ := ct_210 G1 i1 (xs (v4 + Int32.ofInt 1).toNatClampNeg) (xs (v4 + Int32.ofInt 2).toNatClampNeg) 
  have a1 : (pj_fi G1 2 1).toInt = (pj_fi G 2 1).toInt := by rw [show pj_fi G1 2 1 = pj_fi G 2 1 from j1.1 (2, 1) (by decide)]
  have a2 : (pj_fi G1 171 16).toInt = (pj_fi G 171 16).toInt := by rw [pj_fi_g (g1 171 (by decide) (by decide))]
  have a3 : (pj_fi G2 2 1).toInt = (pj_fi G1 2 1).toInt := by rw [show pj_fi G2 2 1 = pj_fi G1 2 1 from j2.1 (2, 1) (by decide)]
  have a4 : (pj_fi G2 171 16).toInt = (pj_fi G1 171 16).toInt := by rw [show pj_fi G2 171 16 = pj_fi G1 171 16 from j2.1 (171, 16) (by decide)]
  refine ⟨G2, dc, ds, ⟨i2, (pj_RI_k hR1 j2 rfl), (by have q9 : pj_fi G2 171 30 = pj_fi G1 171 30 := j2.1 (171, 30) (by decide); rw [q9]; exact hU1), ⟨by omega, fun j hj => by rw [j2.2.2 3 (by decide) j, j2.2.2 180 (by decide) j, j1.2.2 3 (by decide) j, j1.2.2 180 (by decide) j]; exact hE2 j (by omega)⟩, mr_FR (mr_FX (mr_FG (mr_FC hF j1 rfl rfl) g1) j2 rfl rfl) j2 rfl, mr_Nk hN ((j2.1 (171, 7) (by decide)).trans (mr_gi (g1 171 (by decide) (by decide)))), mr_KR (mr_KX (mr_KG (mr_KC hK j1 rfl rfl) g1) j2 rfl rfl) j2 rfl, mr_En (mr_ER (mr_EC (mr_EG (mr_EC hE6 hI j1 rfl) i1 g1) i1 j2 rfl) i2 j2 rfl)⟩, hdc, hds, fun r hr => ?_⟩
  refine pj_R_tz (M' := pj_cs6) rfl pj_cs6_s (G, 336, [(4, .int v4), (3, .ref 203), (2, .ref 171), (1, .ref 1), (0, .ref 0)], [.int (v4 + (Int32.ofInt 1)), .ref 0, .ref 1], mc, ms) 336 6 (fun _ => rfl) ?_
  refine pj_R_sl (pj_cs6_s _ _ rfl) (by omega) (by omega) ?_
  show pj_R _ _ _ _ (G, 337, [(4, .int v4), (3, .ref 203), (2, .ref 171), (1, .ref 1), (0, .ref 0)], [.int (xs (v4 + (Int32.ofInt 1)).toNatClampNeg), .ref 1], mc, ms) _
  refine pj_R_tz (M' := pj_cs6) rfl pj_cs6_s (G, 342, [(4, .int v4), (3, .ref 203), (2, .ref 171), (1, .ref 1), (0, .ref 0)], [.int (v4 + (Int32.ofInt 2)), .ref 0, .int (xs (v4 + (Int32.ofInt 1)).toNatClampNeg), .ref 1], mc, ms) 342 5 (fun _ => rfl) ?_
  refine pj_R_sl (pj_cs6_s _ _ rfl) (by omega) (by omega) ?_
  show pj_R _ _ _ _ (G, 343, [(4, .int v4), (3, .ref 203), (2, .ref 171), (1, .ref 1), (0, .ref 0)], [.int (xs (v4 + (Int32.ofInt 2)).toNatClampNeg), .int (xs (v4 + (Int32.ofInt 1)).toNatClampNeg), .ref 1], mc, ms) _
  refine pj_R_tz (M' := pj_cs6) rfl pj_cs6_s (G, 344, [(4, .int v4), (3, .ref 203), (2, .ref 171), (1, .ref 1), (0, .ref 0)], [.ref 203, .int (xs (v4 + (Int32.ofInt 2)).toNatClampNeg), .int (xs (v4 + (Int32.ofInt 1)).toNatClampNeg), .ref 1], mc, ms) 344 2 (fun _ => rfl) ?_
  refine pj_R_ca pj_lz_mon (vs := [.ref 1, .int (xs (v4 + (Int32.ofInt 1)).toNatClampNeg), .int (xs (v4 + (Int32.ofInt 2)).toNatClampNeg), .ref 203]) (S2 := [.int y1]) (pj_cs6_s _ _ rfl) (fun _ => rfl) ⟨Nat.le_of_ble_eq_true rfl, Nat.le_of_ble_eq_true rfl, rfl⟩ ⟨rfl, rfl, rfl⟩ (⟨0, (pj_lz_hi 0 0 _ _).trans z1⟩) ?_
  show pj_R _ _ _ _ (G1, 347, [(4, .int v4), (3, .ref 203), (2, .ref 171), (1, .ref 1), (0, .ref 0)], [.int y1], mc + dc, ms + ds) _
  refine pj_R_tz (M' := pj_cs6) rfl pj_cs6_s (G1, 355, [(5, .int y1), (4, .int v4), (3, .ref 203), (2, .ref 171), (1, .ref 1), (0, .ref 0)], [.int (v4 + (Int32.ofInt 1)), .ref 0, .ref 171], mc + dc, ms + ds) 355 7 (fun _ => rfl) ?_
  refine pj_R_sl (pj_cs6_s _ _ rfl) (by omega) (by omega) ?_
  show pj_R _ _ _ _ (G1, 356, [(5, .int y1), (4, .int v4), (3, .ref 203), (2, .ref 171), (1, .ref 1), (0, .ref 0)], [.int (xs (v4 + (Int32.ofInt 1)).toNatClampNeg), .ref 171], mc + dc, ms + ds) _
  refine pj_R_tz (M' := pj_cs6) rfl pj_cs6_s (G1, 361, [(5, .int y1), (4, .int v4), (3, .ref 203), (2, .ref 171), (1, .ref 1), (0, .ref 0)], [.int (v4 + (Int32.ofInt 2)), .ref 0, .int (xs (v4 + (Int32.ofInt 1)).toNatClampNeg), .ref 171], mc + dc, ms + ds) 361 5 (fun _ => rfl) ?_
  refine pj_R_sl (pj_cs6_s _ _ rfl) (by omega) (by omega) ?_
  show pj_R _ _ _ _ (G1, 362, [(5, .int y1), (4, .int v4), (3, .ref 203), (2, .ref 171), (1, .ref 1), (0, .ref 0)], [.int (xs (v4 + (Int32.ofInt 2)).toNatClampNeg), .int (xs (v4 + (Int32.ofInt 1)).toNatClampNeg), .ref 171], mc + dc, ms + ds) _
  refine pj_R_ca pj_lz_mon (vs := [.ref 171, .int (xs (v4 + (Int32.ofInt 1)).toNatClampNeg), .int (xs (v4 + (Int32.ofInt 2)).toNatClampNeg)]) (S2 := [.int y2]) (pj_cs6_s _ _ rfl) (fun _ => rfl) ⟨Nat.le_of_ble_eq_true rfl, Nat.le_of_ble_eq_true rfl, pj_T_rcv i1 rfl⟩ ⟨rfl, rfl, rfl⟩ (pj_E_lz (by decide) (by decide) q2) ?_
  show pj_R _ _ _ _ (G2, 365, [(5, .int y1), (4, .int v4), (3, .ref 203), (2, .ref 171), (1, .ref 1), (0, .ref 0)], [.int y2], mc + dc, ms + ds) _
  refine pj_R_tz (M' := pj_cs6) rfl pj_cs6_s (G2, 1484, [(6, .int y2), (5, .int y1), (4, .int v4), (3, .ref 203), (2, .ref 171), (1, .ref 1), (0, .ref 0)], [], mc + dc, ms + ds) 1484 3 (fun _ => rfl) ?_
  exact pj_R_loc (A := [(4, .int v4), (3, .ref 203), (2, .ref 171), (1, .ref 1), (0, .ref 0)]) (show List.Nodup [4, 3, 2, 1, 0] by decide) ⟨rfl, rfl, rfl, rfl, rfl, trivial⟩ hr
def pj_cs7 : pj_M := (pj_law.1, pj_law.2.1, 8, some .boolean, pj_law.2.2.2.2.1, [(370, .aload_n 1, 1, [], 0), (371, .aload_n 0, 1, [], 0), (372, .iload 4, 2, [], 0), (374, .iconst 1, 1, [], 0), (375, .iadd, 1, [], 0), (376, .iaload, 1, [], 0), (377, .aload_n 0, 1, [], 0), (378, .iload 4, 2, [], 0), (380, .iconst 2, 1, [], 0), (381, .iadd, 1, [], 0), (382, .iaload, 1, [], 0), (383, .aload_n 3, 1, [], 0), (384, .invokestatic 62, 3, [9, 4, 1001, 0, 1350, 1351, 86, 1352], 0), (387, .istore 5, 2, [], 0), (389, .aload_n 2, 1, [], 0), (390, .aload_n 0, 1, [], 0), (391, .iload 4, 2, [], 0), (393, .iconst 1, 1, [], 0), (394, .iadd, 1, [], 0), (395, .iaload, 1, [], 0), (396, .aload_n 0, 1, [], 0), (397, .iload 4, 2, [], 0), (399, .iconst 2, 1, [], 0), (400, .iadd, 1, [], 0), (401, .iaload, 1, [], 0), (402, .invokevirtual 64, 3, [0, 3, 211, 12, 1684], 0), (405, .istore 6, 2, [], 0), (407, .goto 1077, 3, [1484], 0)])
set_option maxRecDepth 100000 in
theorem pj_cs7_ok : pj_cs7.2.2.2.2.2.all (fun q => decide (pj_find pj_law.2.2.2.2.2 q.1 = some q.2)) = true := by decide +kernel
theorem pj_cs7_s : ∀ pc q, pj_find pj_cs7.2.2.2.2.2 pc = some q → pj_find pj_law.2.2.2.2.2 pc = some q := fun pc q hq => of_decide_eq_true (List.all_eq_true.mp pj_cs7_ok (pc, q) (pj_find_s hq))
set_option maxRecDepth 100000 in
set_option maxHeartbeats 8000000 in
theorem lw_7 {k : Nat} {xs : Nat → Int32} (hk : k ≤ 2560) (G : pj_G) (v4 : Int32) (hG : pj_LI v4.toInt G) (h0 : 0 ≤ v4.toInt) (h5 : v4.toInt + 5 ≤ k) (mc ms : Nat) : ∃ (G' : pj_G) (dc ds : Nat), pj_LI (v4.toInt + 5) G' ∧ dc ≤ 1 ∧ ds ≤ 6 ∧ ∀ r, pj_R pj_lz (k + 1) xs pj_law (G', 1484, [(4, .int v4), (3, .ref 203), (2, .ref 171), (1, .ref 1), (0, .ref 0)], [], mc + dc, ms + ds) r → pj_R pj_lz (k + 1) xs pj_law (G, 370, [(4, .int v4), (3, .ref 203), (2, .ref 171), (1, .ref 1), (0, .ref 0)], [], mc, ms) r := by
  have ix1 : (v4 + Int32.ofInt 1).toInt = v4.toInt + 1 := pj_ix5 (by decide) h0 (by omega) (by decide) (by decide)
  have ix2 : (v4 + Int32.ofInt 2).toInt = v4.toInt + 2 := pj_ix5 (by decide) h0 (by omega) (by decide) (by decide)
  have ix3 : (v4 + Int32.ofInt 3).toInt = v4.toInt + 3 := pj_ix5 (by decide) h0 (by omega) (by decide) (by decide)
  have ix4 : (v4 + Int32.ofInt 4).toInt = v4.toInt + 4 := pj_ix5 (by decide) h0 (by omega) (by decide) (by decide)
  obtain ⟨hI, hR, hU, hT, hF, hN, hK, hE6⟩ := hG
  have hE1 := hT.1
  have hE2 := hT.2
  obtain ⟨y1, G1, dc, ds, z1, i1, j1, hdc, hds⟩ := pj_hz1 G hI (xs (v4 + Int32.ofInt 1).toNatClampNeg) (xs (v4 + Int32.ofInt 2).toNatClampNeg)
  have g1 : ∀ b, 171 ≤ b → b < 203 → pj_get G1 b = pj_get G b := fun b h1 h2 => j1.2.1.1 b (pj_nc h1 h2 rfl)
  have hR1 : pj_RI G1 := pj_RI_g g1 hR
  have hU1 : (pj_fi G1 171 30).toInt ≤ 15 := pj_UN_g g1 hU
  obtain ⟨v2, G2, q2, y2, rfl, i2, j2, -⟩ := ct_211 G1 i1 (xs (v4 + Int32.ofInt 1).toNatClampNeg) (xs (v4 + Int32.ofInt 2).toNatClampNeg) 
  have a1 : (pj_fi G1 2 1).toInt = (pj_fi G 2 1).toInt := by rw [show pj_fi G1 2 1 = pj_fi G 2 1 from j1.1 (2, 1) (by decide)]
  have a2 : (pj_fi G1 171 16).toInt = (pj_fi G 171 16).toInt := by rw [pj_fi_g (g1 171 (by decide) (by decide))]
  have a3 : (pj_fi G2 2 1).toInt = (pj_fi G1 2 1).toInt := by rw [show pj_fi G2 2 1 = pj_fi G1 2 1 from j2.1 (2, 1) (by decide)]
  have a4 : (pj_fi G2 171 16).toInt = (pj_fi G1 171 16).toInt := by rw [show pj_fi G2 171 16 = pj_fi G1 171 16 from j2.1 (171, 16) (by decide)]
  refine ⟨G2, dc, ds, ⟨i2, (pj_RI_k hR1 j2 rfl), (by have q9 : pj_fi G2 171 30 = pj_fi G1 171 30 := j2.1 (171, 30) (by decide); rw [q9]; exact hU1), ⟨by omega, fun j hj => by rw [j2.2.2 3 (by decide) j, j2.2.2 180 (by decide) j, j1.2.2 3 (by decide) j, j1.2.2 180 (by decide) j]; exact hE2 j (by omega)⟩, mr_FR (mr_FX (mr_FG (mr_FC hF j1 rfl rfl) g1) j2 rfl rfl) j2 rfl, mr_Nk hN ((j2.1 (171, 7) (by decide)).trans (mr_gi (g1 171 (by decide) (by decide)))), mr_KR (mr_KX (mr_KG (mr_KC hK j1 rfl rfl) g1) j2 rfl rfl) j2 rfl, mr_En (mr_ER (mr_EC (mr_EG (mr_EC hE6 hI j1 rfl) i1 g1) i1 j2 rfl) i2 j2 rfl)⟩, hdc, hds, fun r hr => ?_⟩
  refine pj_R_tz (M' := pj_cs7) rfl pj_cs7_s (G, 376, [(4, .int v4), (3, .ref 203), (2, .ref 171), (1, .ref 1), (0, .ref 0)], [.int (v4 + (Int32.ofInt 1)), .ref 0, .ref 1], mc, ms) 376 6 (fun _ => rfl) ?_
  refine pj_R_sl (pj_cs7_s _ _ rfl) (by omega) (by omega) ?_
  show pj_R _ _ _ _ (G, 377, [(4, .int v4), (3, .ref 203), (2, .ref 171), (1, .ref 1), (0, .ref 0)], [.int (xs (v4 + (Int32.ofInt 1)).toNatClampNeg), .ref 1], mc, ms) _
  refine pj_R_tz (M' := pj_cs7) rfl pj_cs7_s (G, 382, [(4, .int v4), (3, .ref 203), (2, .ref 171), (1, .ref 1), (0, .ref 0)], [.int (v4 + (Int32.ofInt 2)), .ref 0, .int (xs (v4 + (Int32.ofInt 1)).toNatClampNeg), .ref 1], mc, ms) 382 5 (fun _ => rfl) ?_
  refine pj_R_sl (pj_cs7_s _ _ rfl) (by omega) (by omega) ?_
  show pj_R _ _ _ _ (G, 383, [(4, .int v4), (3, .ref 203), (2, .ref 171), (1, .ref 1), (0, .ref 0)], [.int (xs (v4 + (Int32.ofInt 2)).toNatClampNeg), .int (xs (v4 + (Int32.ofInt 1)).toNatClampNeg), .ref 1], mc, ms) _
  refine pj_R_tz (M' := pj_cs7) rfl pj_cs7_s (G, 384, [(4, .int v4), (3, .ref 203), (2, .ref 171), (1, .ref 1), (0, .ref 0)], [.ref 203, .int (xs (v4 + (Int32.ofInt 2)).toNatClampNeg), .int (xs (v4 + (Int32.ofInt 1)).toNatClampNeg), .ref 1], mc, ms) 384 2 (fun _ => rfl) ?_
  refine pj_R_ca pj_lz_mon (vs := [.ref 1, .int (xs (v4 + (Int32.ofInt 1)).toNatClampNeg), .int (xs (v4 + (Int32.ofInt 2)).toNatClampNeg), .ref 203]) (S2 := [.int y1]) (pj_cs7_s _ _ rfl) (fun _ => rfl) ⟨Nat.le_of_ble_eq_true rfl, Nat.le_of_ble_eq_true rfl, rfl⟩ ⟨rfl, rfl, rfl⟩ (⟨0, (pj_lz_hi 0 1 _ _).trans z1⟩) ?_
  show pj_R _ _ _ _ (G1, 387, [(4, .int v4), (3, .ref 203), (2, .ref 171), (1, .ref 1), (0, .ref 0)], [.int y1], mc + dc, ms + ds) _
  refine pj_R_tz (M' := pj_cs7) rfl pj_cs7_s (G1, 395, [(5, .int y1), (4, .int v4), (3, .ref 203), (2, .ref 171), (1, .ref 1), (0, .ref 0)], [.int (v4 + (Int32.ofInt 1)), .ref 0, .ref 171], mc + dc, ms + ds) 395 7 (fun _ => rfl) ?_
  refine pj_R_sl (pj_cs7_s _ _ rfl) (by omega) (by omega) ?_
  show pj_R _ _ _ _ (G1, 396, [(5, .int y1), (4, .int v4), (3, .ref 203), (2, .ref 171), (1, .ref 1), (0, .ref 0)], [.int (xs (v4 + (Int32.ofInt 1)).toNatClampNeg), .ref 171], mc + dc, ms + ds) _
  refine pj_R_tz (M' := pj_cs7) rfl pj_cs7_s (G1, 401, [(5, .int y1), (4, .int v4), (3, .ref 203), (2, .ref 171), (1, .ref 1), (0, .ref 0)], [.int (v4 + (Int32.ofInt 2)), .ref 0, .int (xs (v4 + (Int32.ofInt 1)).toNatClampNeg), .ref 171], mc + dc, ms + ds) 401 5 (fun _ => rfl) ?_
  refine pj_R_sl (pj_cs7_s _ _ rfl) (by omega) (by omega) ?_
  show pj_R _ _ _ _ (G1, 402, [(5, .int y1), (4, .int v4), (3, .ref 203), (2, .ref 171), (1, .ref 1), (0, .ref 0)], [.int (xs (v4 + (Int32.ofInt 2)).toNatClampNeg), .int (xs (v4 + (Int32.ofInt 1)).toNatClampNeg), .ref 171], mc + dc, ms + ds) _
  refine pj_R_ca pj_lz_mon (vs := [.ref 171, .int (xs (v4 + (Int32.ofInt 1)).toNatClampNeg), .int (xs (v4 + (Int32.ofInt 2)).toNatClampNeg)]) (S2 := [.int y2]) (pj_cs7_s _ _ rfl) (fun _ => rfl) ⟨Nat.le_of_ble_eq_true rfl, Nat.le_of_ble_eq_true rfl, pj_T_rcv i1 rfl⟩ ⟨rfl, rfl, rfl⟩ (pj_E_lz (by decide) (by decide) q2) ?_
  show pj_R _ _ _ _ (G2, 405, [(5, .int y1), (4, .int v4), (3, .ref 203), (2, .ref 171), (1, .ref 1), (0, .ref 0)], [.int y2], mc + dc, ms + ds) _
  refine pj_R_tz (M' := pj_cs7) rfl pj_cs7_s (G2, 1484, [(6, .int y2), (5, .int y1), (4, .int v4), (3, .ref 203), (2, .ref 171), (1, .ref 1), (0, .ref 0)], [], mc + dc, ms + ds) 1484 3 (fun _ => rfl) ?_
  exact pj_R_loc (A := [(4, .int v4), (3, .ref 203), (2, .ref 171), (1, .ref 1), (0, .ref 0)]) (show List.Nodup [4, 3, 2, 1, 0] by decide) ⟨rfl, rfl, rfl, rfl, rfl, trivial⟩ hr
def pj_cs8 : pj_M := (pj_law.1, pj_law.2.1, 8, some .boolean, pj_law.2.2.2.2.1, [(410, .aload_n 1, 1, [], 0), (411, .aload_n 0, 1, [], 0), (412, .iload 4, 2, [], 0), (414, .iconst 1, 1, [], 0), (415, .iadd, 1, [], 0), (416, .iaload, 1, [], 0), (417, .aload_n 0, 1, [], 0), (418, .iload 4, 2, [], 0), (420, .iconst 2, 1, [], 0), (421, .iadd, 1, [], 0), (422, .iaload, 1, [], 0), (423, .aload_n 3, 1, [], 0), (424, .invokestatic 65, 3, [9, 4, 1002, 0, 1358, 1359, 86, 1360], 0), (427, .istore 5, 2, [], 0), (429, .aload_n 2, 1, [], 0), (430, .aload_n 0, 1, [], 0), (431, .iload 4, 2, [], 0), (433, .iconst 1, 1, [], 0), (434, .iadd, 1, [], 0), (435, .iaload, 1, [], 0), (436, .aload_n 0, 1, [], 0), (437, .iload 4, 2, [], 0), (439, .iconst 2, 1, [], 0), (440, .iadd, 1, [], 0), (441, .iaload, 1, [], 0), (442, .invokevirtual 67, 3, [0, 3, 212, 12, 1693], 0), (445, .istore 6, 2, [], 0), (447, .goto 1037, 3, [1484], 0)])
set_option maxRecDepth 100000 in
theorem pj_cs8_ok : pj_cs8.2.2.2.2.2.all (fun q => decide (pj_find pj_law.2.2.2.2.2 q.1 = some q.2)) = true := by decide +kernel
theorem pj_cs8_s : ∀ pc q, pj_find pj_cs8.2.2.2.2.2 pc = some q → pj_find pj_law.2.2.2.2.2 pc = some q := fun pc q hq => of_decide_eq_true (List.all_eq_true.mp pj_cs8_ok (pc, q) (pj_find_s hq))
set_option maxRecDepth 100000 in
set_option maxHeartbeats 8000000 in
theorem lw_8 {k : Nat} {xs : Nat → Int32} (hk : k ≤ 2560) (G : pj_G) (v4 : Int32) (hG : pj_LI v4.toInt G) (h0 : 0 ≤ v4.toInt) (h5 : v4.toInt + 5 ≤ k) (mc ms : Nat) : ∃ (G' : pj_G) (dc ds : Nat), pj_LI (v4.toInt + 5) G' ∧ dc ≤ 1 ∧ ds ≤ 6 ∧ ∀ r, pj_R pj_lz (k + 1) xs pj_law (G', 1484, [(4, .int v4), (3, .ref 203), (2, .ref 171), (1, .ref 1), (0, .ref 0)], [], mc + dc, ms + ds) r → pj_R pj_lz (k + 1) xs pj_law (G, 410, [(4, .int v4), (3, .ref 203), (2, .ref 171), (1, .ref 1), (0, .ref 0)], [], mc, ms) r := by
  have ix1 : (v4 + Int32.ofInt 1).toInt = v4.toInt + 1 := pj_ix5 (by decide) h0 (by omega) (by decide) (by decide)
  have ix2 : (v4 + Int32.ofInt 2).toInt = v4.toInt + 2 := pj_ix5 (by decide) h0 (by omega) (by decide) (by decide)
  have ix3 : (v4 + Int32.ofInt 3).toInt = v4.toInt + 3 := pj_ix5 (by decide) h0 (by omega) (by decide) (by decide)
  have ix4 : (v4 + Int32.ofInt 4).toInt = v4.toInt + 4 := pj_ix5 (by decide) h0 (by omega) (by decide) (by decide)
  obtain ⟨hI, hR, hU, hT, hF, hN, hK, hE6⟩ := hG
  have hE1 := hT.1
  have hE2 := hT.2
  obtain ⟨y1, G1, dc, ds, z1, i1, j1, hdc, hds⟩ := pj_hz2 G hI (xs (v4 + Int32.ofInt 1).toNatClampNeg) (xs (v4 + Int32.ofInt 2).toNatClampNeg)
  have g1 : ∀ b, 171 ≤ b → b < 203 → pj_get G1 b = pj_get G b := fun b h1 h2 => j1.2.1.1 b (pj_nc h1 h2 rfl)
  have hR1 : pj_RI G1 := pj_RI_g g1 hR
  have hU1 : (pj_fi G1 171 30).toInt ≤ 15 := pj_UN_g g1 hU
  obtain ⟨v2, G2, q2, y2, rfl, i2, j2, -⟩ := ct_212 G1 i1 (xs (v4 + Int32.ofInt 1).toNatClampNeg) (xs (v4 + Int32.ofInt 2).toNatClampNeg) 
  have a1 : (pj_fi G1 2 1).toInt = (pj_fi G 2 1).toInt := by rw [show pj_fi G1 2 1 = pj_fi G 2 1 from j1.1 (2, 1) (by decide)]
  have a2 : (pj_fi G1 171 16).toInt = (pj_fi G 171 16).toInt := by rw [pj_fi_g (g1 171 (by decide) (by decide))]
  have a3 : (pj_fi G2 2 1).toInt = (pj_fi G1 2 1).toInt := by rw [show pj_fi G2 2 1 = pj_fi G1 2 1 from j2.1 (2, 1) (by decide)]
  have a4 : (pj_fi G2 171 16).toInt = (pj_fi G1 171 16).toInt := by rw [show pj_fi G2 171 16 = pj_fi G1 171 16 from j2.1 (171, 16) (by decide)]
  refine ⟨G2, dc, ds, ⟨i2, (pj_RI_k hR1 j2 rfl), (by have q9 : pj_fi G2 171 30 = pj_fi G1 171 30 := j2.1 (171, 30) (by decide); rw [q9]; exact hU1), ⟨by omega, fun j hj => by rw [j2.2.2 3 (by decide) j, j2.2.2 180 (by decide) j, j1.2.2 3 (by decide) j, j1.2.2 180 (by decide) j]; exact hE2 j (by omega)⟩, mr_FR (mr_FX (mr_FG (mr_FC hF j1 rfl rfl) g1) j2 rfl rfl) j2 rfl, mr_Nk hN ((j2.1 (171, 7) (by decide)).trans (mr_gi (g1 171 (by decide) (by decide)))), mr_KR (mr_KX (mr_KG (mr_KC hK j1 rfl rfl) g1) j2 rfl rfl) j2 rfl, mr_En (mr_ER (mr_EC (mr_EG (mr_EC hE6 hI j1 rfl) i1 g1) i1 j2 rfl) i2 j2 rfl)⟩, hdc, hds, fun r hr => ?_⟩
  refine pj_R_tz (M' := pj_cs8) rfl pj_cs8_s (G, 416, [(4, .int v4), (3, .ref 203), (2, .ref 171), (1, .ref 1), (0, .ref 0)], [.int (v4 + (Int32.ofInt 1)), .ref 0, .ref 1], mc, ms) 416 6 (fun _ => rfl) ?_
  refine pj_R_sl (pj_cs8_s _ _ rfl) (by omega) (by omega) ?_
  show pj_R _ _ _ _ (G, 417, [(4, .int v4), (3, .ref 203), (2, .ref 171), (1, .ref 1), (0, .ref 0)], [.int (xs (v4 + (Int32.ofInt 1)).toNatClampNeg), .ref 1], mc, ms) _
  refine pj_R_tz (M' := pj_cs8) rfl pj_cs8_s (G, 422, [(4, .int v4), (3, .ref 203), (2, .ref 171), (1, .ref 1), (0, .ref 0)], [.int (v4 + (Int32.ofInt 2)), .ref 0, .int (xs (v4 + (Int32.ofInt 1)).toNatClampNeg), .ref 1], mc, ms) 422 5 (fun _ => rfl) ?_
  refine pj_R_sl (pj_cs8_s _ _ rfl) (by omega) (by omega) ?_
  show pj_R _ _ _ _ (G, 423, [(4, .int v4), (3, .ref 203), (2, .ref 171), (1, .ref 1), (0, .ref 0)], [.int (xs (v4 + (Int32.ofInt 2)).toNatClampNeg), .int (xs (v4 + (Int32.ofInt 1)).toNatClampNeg), .ref 1], mc, ms) _
  refine pj_R_tz (M' := pj_cs8) rfl pj_cs8_s (G, 424, [(4, .int v4), (3, .ref 203), (2, .ref 171), (1, .ref 1), (0, .ref 0)], [.ref 203, .int (xs (v4 + (Int32.ofInt 2)).toNatClampNeg), .int (xs (v4 + (Int32.ofInt 1)).toNatClampNeg), .ref 1], mc, ms) 424 2 (fun _ => rfl) ?_
  refine pj_R_ca pj_lz_mon (vs := [.ref 1, .int (xs (v4 + (Int32.ofInt 1)).toNatClampNeg), .int (xs (v4 + (Int32.ofInt 2)).toNatClampNeg), .ref 203]) (S2 := [.int y1]) (pj_cs8_s _ _ rfl) (fun _ => rfl) ⟨Nat.le_of_ble_eq_true rfl, Nat.le_of_ble_eq_true rfl, rfl⟩ ⟨rfl, rfl, rfl⟩ (⟨0, (pj_lz_hi 0 2 _ _).trans z1⟩) ?_
  show pj_R _ _ _ _ (G1, 427, [(4, .int v4), (3, .ref 203), (2, .ref 171), (1, .ref 1), (0, .ref 0)], [.int y1], mc + dc, ms + ds) _
  refine pj_R_tz (M' := pj_cs8) rfl pj_cs8_s (G1, 435, [(5, .int y1), (4, .int v4), (3, .ref 203), (2, .ref 171), (1, .ref 1), (0, .ref 0)], [.int (v4 + (Int32.ofInt 1)), .ref 0, .ref 171], mc + dc, ms + ds) 435 7 (fun _ => rfl) ?_
  refine pj_R_sl (pj_cs8_s _ _ rfl) (by omega) (by omega) ?_
  show pj_R _ _ _ _ (G1, 436, [(5, .int y1), (4, .int v4), (3, .ref 203), (2, .ref 171), (1, .ref 1), (0, .ref 0)], [.int (xs (v4 + (Int32.ofInt 1)).toNatClampNeg), .ref 171], mc + dc, ms + ds) _
  refine pj_R_tz (M' := pj_cs8) rfl pj_cs8_s (G1, 441, [(5, .int y1), (4, .int v4), (3, .ref 203), (2, .ref 171), (1, .ref 1), (0, .ref 0)], [.int (v4 + (Int32.ofInt 2)), .ref 0, .int (xs (v4 + (Int32.ofInt 1)).toNatClampNeg), .ref 171], mc + dc, ms + ds) 441 5 (fun _ => rfl) ?_
  refine pj_R_sl (pj_cs8_s _ _ rfl) (by omega) (by omega) ?_
  show pj_R _ _ _ _ (G1, 442, [(5, .int y1), (4, .int v4), (3, .ref 203), (2, .ref 171), (1, .ref 1), (0, .ref 0)], [.int (xs (v4 + (Int32.ofInt 2)).toNatClampNeg), .int (xs (v4 + (Int32.ofInt 1)).toNatClampNeg), .ref 171], mc + dc, ms + ds) _
  refine pj_R_ca pj_lz_mon (vs := [.ref 171, .int (xs (v4 + (Int32.ofInt 1)).toNatClampNeg), .int (xs (v4 + (Int32.ofInt 2)).toNatClampNeg)]) (S2 := [.int y2]) (pj_cs8_s _ _ rfl) (fun _ => rfl) ⟨Nat.le_of_ble_eq_true rfl, Nat.le_of_ble_eq_true rfl, pj_T_rcv i1 rfl⟩ ⟨rfl, rfl, rfl⟩ (pj_E_lz (by decide) (by decide) q2) ?_
  show pj_R _ _ _ _ (G2, 445, [(5, .int y1), (4, .int v4), (3, .ref 203), (2, .ref 171), (1, .ref 1), (0, .ref 0)], [.int y2], mc + dc, ms + ds) _
  refine pj_R_tz (M' := pj_cs8) rfl pj_cs8_s (G2, 1484, [(6, .int y2), (5, .int y1), (4, .int v4), (3, .ref 203), (2, .ref 171), (1, .ref 1), (0, .ref 0)], [], mc + dc, ms + ds) 1484 3 (fun _ => rfl) ?_
  exact pj_R_loc (A := [(4, .int v4), (3, .ref 203), (2, .ref 171), (1, .ref 1), (0, .ref 0)]) (show List.Nodup [4, 3, 2, 1, 0] by decide) ⟨rfl, rfl, rfl, rfl, rfl, trivial⟩ hr
def pj_cs9 : pj_M := (pj_law.1, pj_law.2.1, 8, some .boolean, pj_law.2.2.2.2.1, [(450, .aload_n 1, 1, [], 0), (451, .aload_n 0, 1, [], 0), (452, .iload 4, 2, [], 0), (454, .iconst 1, 1, [], 0), (455, .iadd, 1, [], 0), (456, .iaload, 1, [], 0), (457, .aload_n 0, 1, [], 0), (458, .iload 4, 2, [], 0), (460, .iconst 2, 1, [], 0), (461, .iadd, 1, [], 0), (462, .iaload, 1, [], 0), (463, .aload_n 0, 1, [], 0), (464, .iload 4, 2, [], 0), (466, .iconst 3, 1, [], 0), (467, .iadd, 1, [], 0), (468, .iaload, 1, [], 0), (469, .aload_n 0, 1, [], 0), (470, .iload 4, 2, [], 0), (472, .iconst 4, 1, [], 0), (473, .iadd, 1, [], 0), (474, .iaload, 1, [], 0), (475, .invokevirtual 68, 3, [0, 5, 126, 11, 738], 0), (478, .pop, 1, [], 0), (479, .aload_n 2, 1, [], 0), (480, .aload_n 0, 1, [], 0), (481, .iload 4, 2, [], 0), (483, .iconst 1, 1, [], 0), (484, .iadd, 1, [], 0), (485, .iaload, 1, [], 0), (486, .aload_n 0, 1, [], 0), (487, .iload 4, 2, [], 0), (489, .iconst 2, 1, [], 0), (490, .iadd, 1, [], 0), (491, .iaload, 1, [], 0), (492, .aload_n 0, 1, [], 0), (493, .iload 4, 2, [], 0), (495, .iconst 3, 1, [], 0), (496, .iadd, 1, [], 0), (497, .iaload, 1, [], 0), (498, .aload_n 0, 1, [], 0), (499, .iload 4, 2, [], 0), (501, .iconst 4, 1, [], 0), (502, .iadd, 1, [], 0), (503, .iaload, 1, [], 0), (504, .invokevirtual 72, 3, [0, 5, 213, 12, 1701], 0), (507, .pop, 1, [], 0), (508, .goto 976, 3, [1484], 0)])
set_option maxRecDepth 100000 in
theorem pj_cs9_ok : pj_cs9.2.2.2.2.2.all (fun q => decide (pj_find pj_law.2.2.2.2.2 q.1 = some q.2)) = true := by decide +kernel
theorem pj_cs9_s : ∀ pc q, pj_find pj_cs9.2.2.2.2.2 pc = some q → pj_find pj_law.2.2.2.2.2 pc = some q := fun pc q hq => of_decide_eq_true (List.all_eq_true.mp pj_cs9_ok (pc, q) (pj_find_s hq))
set_option maxRecDepth 100000 in
set_option maxHeartbeats 8000000 in
theorem lw_9 {k : Nat} {xs : Nat → Int32} (hk : k ≤ 2560) (G : pj_G) (v4 : Int32) (hG : pj_LI v4.toInt G) (h0 : 0 ≤ v4.toInt) (h5 : v4.toInt + 5 ≤ k) (mc ms : Nat) : ∃ (G' : pj_G) (dc ds : Nat), pj_LI (v4.toInt + 5) G' ∧ dc ≤ 1 ∧ ds ≤ 6 ∧ ∀ r, pj_R pj_lz (k + 1) xs pj_law (G', 1484, [(4, .int v4), (3, .ref 203), (2, .ref 171), (1, .ref 1), (0, .ref 0)], [], mc + dc, ms + ds) r → pj_R pj_lz (k + 1) xs pj_law (G, 450, [(4, .int v4), (3, .ref 203), (2, .ref 171), (1, .ref 1), (0, .ref 0)], [], mc, ms) r := by
  have ix1 : (v4 + Int32.ofInt 1).toInt = v4.toInt + 1 := pj_ix5 (by decide) h0 (by omega) (by decide) (by decide)
  have ix2 : (v4 + Int32.ofInt 2).toInt = v4.toInt + 2 := pj_ix5 (by decide) h0 (by omega) (by decide) (by decide)
  have ix3 : (v4 + Int32.ofInt 3).toInt = v4.toInt + 3 := pj_ix5 (by decide) h0 (by omega) (by decide) (by decide)
  have ix4 : (v4 + Int32.ofInt 4).toInt = v4.toInt + 4 := pj_ix5 (by decide) h0 (by omega) (by decide) (by decide)
  obtain ⟨hI, hR, hU, hT, hF, hN, hK, hE6⟩ := hG
  have hE1 := hT.1
  have hE2 := hT.2
  obtain ⟨v1, G1, q1, y1, rfl, i1, j1, -, f1⟩ := ct_126x G hI (xs (v4 + Int32.ofInt 1).toNatClampNeg) (xs (v4 + Int32.ofInt 2).toNatClampNeg) (xs (v4 + Int32.ofInt 3).toNatClampNeg) (xs (v4 + Int32.ofInt 4).toNatClampNeg) 
  have g1 : ∀ b, 171 ≤ b → b < 203 → pj_get G1 b = pj_get G b := fun b h1 h2 => j1.2.1.1 b (pj_nc h1 h2 rfl)
  have hR1 : pj_RI G1 := pj_RI_g g1 hR
  have hU1 : (pj_fi G1 171 30).toInt ≤ 15 := pj_UN_g g1 hU
  obtain ⟨v2, G2, q2, y2, rfl, i2, j2, -, f2⟩ := ct_213x G1 i1 (xs (v4 + Int32.ofInt 1).toNatClampNeg) (xs (v4 + Int32.ofInt 2).toNatClampNeg) (xs (v4 + Int32.ofInt 3).toNatClampNeg) (xs (v4 + Int32.ofInt 4).toNatClampNeg) 
  have a1 : (pj_fi G1 2 1).toInt = (pj_fi G 2 1).toInt := by rw [show pj_fi G1 2 1 = pj_fi G 2 1 from j1.1 (2, 1) (by decide)]
  have a2 : (pj_fi G1 171 16).toInt = (pj_fi G 171 16).toInt := by rw [pj_fi_g (g1 171 (by decide) (by decide))]
  have a3 : (pj_fi G2 2 1).toInt = (pj_fi G1 2 1).toInt := by rw [show pj_fi G2 2 1 = pj_fi G1 2 1 from j2.1 (2, 1) (by decide)]
  have a4 : (pj_fi G2 171 16).toInt = (pj_fi G1 171 16).toInt := by rw [show pj_fi G2 171 16 = pj_fi G1 171 16 from j2.1 (171, 16) (by decide)]
  refine ⟨G2, 0, 0, ⟨i2, (pj_RI_k hR1 j2 rfl), (by have q9 : pj_fi G2 171 30 = pj_fi G1 171 30 := j2.1 (171, 30) (by decide); rw [q9]; exact hU1), ⟨by omega, fun j hj => by rw [j2.2.2 3 (by decide) j, j2.2.2 180 (by decide) j, j1.2.2 3 (by decide) j, j1.2.2 180 (by decide) j]; exact hE2 j (by omega)⟩, mr_FR (mr_FX (mr_FG (mr_FC hF j1 rfl rfl) g1) j2 rfl rfl) j2 rfl, mr_Nk hN ((j2.1 (171, 7) (by decide)).trans (mr_gi (g1 171 (by decide) (by decide)))), mr_KR (mr_KX (mr_KG (mr_KC hK j1 rfl rfl) g1) j2 rfl rfl) j2 rfl, mr_EC (by have z := (mr_e9 hI i1 (mr_FG hF g1) (mr_EG hE6 hI g1) (xs (v4 + Int32.ofInt 1).toNatClampNeg) (xs (v4 + Int32.ofInt 2).toNatClampNeg) (xs (v4 + Int32.ofInt 3).toNatClampNeg) (xs (v4 + Int32.ofInt 4).toNatClampNeg)); rw [← f1] at z; dsimp only at z; rw [← f2] at z; exact z) i1 j2 rfl⟩, by decide, by decide, fun r hr => ?_⟩
  refine pj_R_tz (M' := pj_cs9) rfl pj_cs9_s (G, 456, [(4, .int v4), (3, .ref 203), (2, .ref 171), (1, .ref 1), (0, .ref 0)], [.int (v4 + (Int32.ofInt 1)), .ref 0, .ref 1], mc, ms) 456 6 (fun _ => rfl) ?_
  refine pj_R_sl (pj_cs9_s _ _ rfl) (by omega) (by omega) ?_
  show pj_R _ _ _ _ (G, 457, [(4, .int v4), (3, .ref 203), (2, .ref 171), (1, .ref 1), (0, .ref 0)], [.int (xs (v4 + (Int32.ofInt 1)).toNatClampNeg), .ref 1], mc, ms) _
  refine pj_R_tz (M' := pj_cs9) rfl pj_cs9_s (G, 462, [(4, .int v4), (3, .ref 203), (2, .ref 171), (1, .ref 1), (0, .ref 0)], [.int (v4 + (Int32.ofInt 2)), .ref 0, .int (xs (v4 + (Int32.ofInt 1)).toNatClampNeg), .ref 1], mc, ms) 462 5 (fun _ => rfl) ?_
  refine pj_R_sl (pj_cs9_s _ _ rfl) (by omega) (by omega) ?_
  show pj_R _ _ _ _ (G, 463, [(4, .int v4), (3, .ref 203), (2, .ref 171), (1, .ref 1), (0, .ref 0)], [.int (xs (v4 + (Int32.ofInt 2)).toNatClampNeg), .int (xs (v4 + (Int32.ofInt 1)).toNatClampNeg), .ref 1], mc, ms) _
  refine pj_R_tz (M' := pj_cs9) rfl pj_cs9_s (G, 468, [(4, .int v4), (3, .ref 203), (2, .ref 171), (1, .ref 1), (0, .ref 0)], [.int (v4 + (Int32.ofInt 3)), .ref 0, .int (xs (v4 + (Int32.ofInt 2)).toNatClampNeg), .int (xs (v4 + (Int32.ofInt 1)).toNatClampNeg), .ref 1], mc, ms) 468 5 (fun _ => rfl) ?_
  refine pj_R_sl (pj_cs9_s _ _ rfl) (by omega) (by omega) ?_
  show pj_R _ _ _ _ (G, 469, [(4, .int v4), (3, .ref 203), (2, .ref 171), (1, .ref 1), (0, .ref 0)], [.int (xs (v4 + (Int32.ofInt 3)).toNatClampNeg), .int (xs (v4 + (Int32.ofInt 2)).toNatClampNeg), .int (xs (v4 + (Int32.ofInt 1)).toNatClampNeg), .ref 1], mc, ms) _
  refine pj_R_tz (M' := pj_cs9) rfl pj_cs9_s (G, 474, [(4, .int v4), (3, .ref 203), (2, .ref 171), (1, .ref 1), (0, .ref 0)], [.int (v4 + (Int32.ofInt 4)), .ref 0, .int (xs (v4 + (Int32.ofInt 3)).toNatClampNeg), .int (xs (v4 + (Int32.ofInt 2)).toNatClampNeg), .int (xs (v4 + (Int32.ofInt 1)).toNatClampNeg), .ref 1], mc, ms) 474 5 (fun _ => rfl) ?_
  refine pj_R_sl (pj_cs9_s _ _ rfl) (by omega) (by omega) ?_
  show pj_R _ _ _ _ (G, 475, [(4, .int v4), (3, .ref 203), (2, .ref 171), (1, .ref 1), (0, .ref 0)], [.int (xs (v4 + (Int32.ofInt 4)).toNatClampNeg), .int (xs (v4 + (Int32.ofInt 3)).toNatClampNeg), .int (xs (v4 + (Int32.ofInt 2)).toNatClampNeg), .int (xs (v4 + (Int32.ofInt 1)).toNatClampNeg), .ref 1], mc, ms) _
  refine pj_R_ca pj_lz_mon (vs := [.ref 1, .int (xs (v4 + (Int32.ofInt 1)).toNatClampNeg), .int (xs (v4 + (Int32.ofInt 2)).toNatClampNeg), .int (xs (v4 + (Int32.ofInt 3)).toNatClampNeg), .int (xs (v4 + (Int32.ofInt 4)).toNatClampNeg)]) (S2 := [.int y1]) (pj_cs9_s _ _ rfl) (fun _ => rfl) ⟨Nat.le_of_ble_eq_true rfl, Nat.le_of_ble_eq_true rfl, pj_T_rcv hI rfl⟩ ⟨rfl, rfl, rfl⟩ (pj_E_lz (by decide) (by decide) q1) ?_
  show pj_R _ _ _ _ (G1, 478, [(4, .int v4), (3, .ref 203), (2, .ref 171), (1, .ref 1), (0, .ref 0)], [.int y1], mc, ms) _
  refine pj_R_tz (M' := pj_cs9) rfl pj_cs9_s (G1, 485, [(4, .int v4), (3, .ref 203), (2, .ref 171), (1, .ref 1), (0, .ref 0)], [.int (v4 + (Int32.ofInt 1)), .ref 0, .ref 171], mc, ms) 485 7 (fun _ => rfl) ?_
  refine pj_R_sl (pj_cs9_s _ _ rfl) (by omega) (by omega) ?_
  show pj_R _ _ _ _ (G1, 486, [(4, .int v4), (3, .ref 203), (2, .ref 171), (1, .ref 1), (0, .ref 0)], [.int (xs (v4 + (Int32.ofInt 1)).toNatClampNeg), .ref 171], mc, ms) _
  refine pj_R_tz (M' := pj_cs9) rfl pj_cs9_s (G1, 491, [(4, .int v4), (3, .ref 203), (2, .ref 171), (1, .ref 1), (0, .ref 0)], [.int (v4 + (Int32.ofInt 2)), .ref 0, .int (xs (v4 + (Int32.ofInt 1)).toNatClampNeg), .ref 171], mc, ms) 491 5 (fun _ => rfl) ?_
  refine pj_R_sl (pj_cs9_s _ _ rfl) (by omega) (by omega) ?_
  show pj_R _ _ _ _ (G1, 492, [(4, .int v4), (3, .ref 203), (2, .ref 171), (1, .ref 1), (0, .ref 0)], [.int (xs (v4 + (Int32.ofInt 2)).toNatClampNeg), .int (xs (v4 + (Int32.ofInt 1)).toNatClampNeg), .ref 171], mc, ms) _
  refine pj_R_tz (M' := pj_cs9) rfl pj_cs9_s (G1, 497, [(4, .int v4), (3, .ref 203), (2, .ref 171), (1, .ref 1), (0, .ref 0)], [.int (v4 + (Int32.ofInt 3)), .ref 0, .int (xs (v4 + (Int32.ofInt 2)).toNatClampNeg), .int (xs (v4 + (Int32.ofInt 1)).toNatClampNeg), .ref 171], mc, ms) 497 5 (fun _ => rfl) ?_
  refine pj_R_sl (pj_cs9_s _ _ rfl) (by omega) (by omega) ?_
  show pj_R _ _ _ _ (G1, 498, [(4, .int v4), (3, .ref 203), (2, .ref 171), (1, .ref 1), (0, .ref 0)], [.int (xs (v4 + (Int32.ofInt 3)).toNatClampNeg), .int (xs (v4 + (Int32.ofInt 2)).toNatClampNeg), .int (xs (v4 + (Int32.ofInt 1)).toNatClampNeg), .ref 171], mc, ms) _
  refine pj_R_tz (M' := pj_cs9) rfl pj_cs9_s (G1, 503, [(4, .int v4), (3, .ref 203), (2, .ref 171), (1, .ref 1), (0, .ref 0)], [.int (v4 + (Int32.ofInt 4)), .ref 0, .int (xs (v4 + (Int32.ofInt 3)).toNatClampNeg), .int (xs (v4 + (Int32.ofInt 2)).toNatClampNeg), .int (xs (v4 + (Int32.ofInt 1)).toNatClampNeg), .ref 171], mc, ms) 503 5 (fun _ => rfl) ?_
  refine pj_R_sl (pj_cs9_s _ _ rfl) (by omega) (by omega) ?_
  show pj_R _ _ _ _ (G1, 504, [(4, .int v4), (3, .ref 203), (2, .ref 171), (1, .ref 1), (0, .ref 0)], [.int (xs (v4 + (Int32.ofInt 4)).toNatClampNeg), .int (xs (v4 + (Int32.ofInt 3)).toNatClampNeg), .int (xs (v4 + (Int32.ofInt 2)).toNatClampNeg), .int (xs (v4 + (Int32.ofInt 1)).toNatClampNeg), .ref 171], mc, ms) _
  refine pj_R_ca pj_lz_mon (vs := [.ref 171, .int (xs (v4 + (Int32.ofInt 1)).toNatClampNeg), .int (xs (v4 + (Int32.ofInt 2)).toNatClampNeg), .int (xs (v4 + (Int32.ofInt 3)).toNatClampNeg), .int (xs (v4 + (Int32.ofInt 4)).toNatClampNeg)]) (S2 := [.int y2]) (pj_cs9_s _ _ rfl) (fun _ => rfl) ⟨Nat.le_of_ble_eq_true rfl, Nat.le_of_ble_eq_true rfl, pj_T_rcv i1 rfl⟩ ⟨rfl, rfl, rfl⟩ (pj_E_lz (by decide) (by decide) q2) ?_
  show pj_R _ _ _ _ (G2, 507, [(4, .int v4), (3, .ref 203), (2, .ref 171), (1, .ref 1), (0, .ref 0)], [.int y2], mc, ms) _
  refine pj_R_tz (M' := pj_cs9) rfl pj_cs9_s (G2, 1484, [(4, .int v4), (3, .ref 203), (2, .ref 171), (1, .ref 1), (0, .ref 0)], [], mc, ms) 1484 3 (fun _ => rfl) ?_
  exact hr
def pj_cs10 : pj_M := (pj_law.1, pj_law.2.1, 8, some .boolean, pj_law.2.2.2.2.1, [(511, .aload_n 1, 1, [], 0), (512, .aload_n 0, 1, [], 0), (513, .iload 4, 2, [], 0), (515, .iconst 1, 1, [], 0), (516, .iadd, 1, [], 0), (517, .iaload, 1, [], 0), (518, .aload_n 0, 1, [], 0), (519, .iload 4, 2, [], 0), (521, .iconst 2, 1, [], 0), (522, .iadd, 1, [], 0), (523, .iaload, 1, [], 0), (524, .invokevirtual 73, 3, [0, 3, 127, 11, 751], 0), (527, .pop, 1, [], 0), (528, .aload_n 2, 1, [], 0), (529, .aload_n 0, 1, [], 0), (530, .iload 4, 2, [], 0), (532, .iconst 1, 1, [], 0), (533, .iadd, 1, [], 0), (534, .iaload, 1, [], 0), (535, .aload_n 0, 1, [], 0), (536, .iload 4, 2, [], 0), (538, .iconst 2, 1, [], 0), (539, .iadd, 1, [], 0), (540, .iaload, 1, [], 0), (541, .invokevirtual 76, 3, [0, 3, 219, 12, 1711], 0), (544, .pop, 1, [], 0), (545, .goto 939, 3, [1484], 0)])
set_option maxRecDepth 100000 in
theorem pj_cs10_ok : pj_cs10.2.2.2.2.2.all (fun q => decide (pj_find pj_law.2.2.2.2.2 q.1 = some q.2)) = true := by decide +kernel
theorem pj_cs10_s : ∀ pc q, pj_find pj_cs10.2.2.2.2.2 pc = some q → pj_find pj_law.2.2.2.2.2 pc = some q := fun pc q hq => of_decide_eq_true (List.all_eq_true.mp pj_cs10_ok (pc, q) (pj_find_s hq))
set_option maxRecDepth 100000 in
set_option maxHeartbeats 8000000 in
theorem lw_10 {k : Nat} {xs : Nat → Int32} (hk : k ≤ 2560) (G : pj_G) (v4 : Int32) (hG : pj_LI v4.toInt G) (h0 : 0 ≤ v4.toInt) (h5 : v4.toInt + 5 ≤ k) (mc ms : Nat) : ∃ (G' : pj_G) (dc ds : Nat), pj_LI (v4.toInt + 5) G' ∧ dc ≤ 1 ∧ ds ≤ 6 ∧ ∀ r, pj_R pj_lz (k + 1) xs pj_law (G', 1484, [(4, .int v4), (3, .ref 203), (2, .ref 171), (1, .ref 1), (0, .ref 0)], [], mc + dc, ms + ds) r → pj_R pj_lz (k + 1) xs pj_law (G, 511, [(4, .int v4), (3, .ref 203), (2, .ref 171), (1, .ref 1), (0, .ref 0)], [], mc, ms) r := by
  have ix1 : (v4 + Int32.ofInt 1).toInt = v4.toInt + 1 := pj_ix5 (by decide) h0 (by omega) (by decide) (by decide)
  have ix2 : (v4 + Int32.ofInt 2).toInt = v4.toInt + 2 := pj_ix5 (by decide) h0 (by omega) (by decide) (by decide)
  have ix3 : (v4 + Int32.ofInt 3).toInt = v4.toInt + 3 := pj_ix5 (by decide) h0 (by omega) (by decide) (by decide)
  have ix4 : (v4 + Int32.ofInt 4).toInt = v4.toInt + 4 := pj_ix5 (by decide) h0 (by omega) (by decide) (by decide)
  obtain ⟨hI, hR, hU, hT, hF, hN, hK, hE6⟩ := hG
  have hE1 := hT.1
  have hE2 := hT.2
  obtain ⟨v1, G1, q1, y1, rfl, i1, j1, -, f1⟩ := ct_127x G hI (xs (v4 + Int32.ofInt 1).toNatClampNeg) (xs (v4 + Int32.ofInt 2).toNatClampNeg) 
  have g1 : ∀ b, 171 ≤ b → b < 203 → pj_get G1 b = pj_get G b := fun b h1 h2 => j1.2.1.1 b (pj_nc h1 h2 rfl)
  have hR1 : pj_RI G1 := pj_RI_g g1 hR
  have hU1 : (pj_fi G1 171 30).toInt ≤ 15 := pj_UN_g g1 hU
  obtain ⟨v2, G2, q2, y2, rfl, i2, j2, -, f2⟩ := ct_219x G1 i1 (xs (v4 + Int32.ofInt 1).toNatClampNeg) (xs (v4 + Int32.ofInt 2).toNatClampNeg) hR1
  have a1 : (pj_fi G1 2 1).toInt = (pj_fi G 2 1).toInt := by rw [show pj_fi G1 2 1 = pj_fi G 2 1 from j1.1 (2, 1) (by decide)]
  have a2 : (pj_fi G1 171 16).toInt = (pj_fi G 171 16).toInt := by rw [pj_fi_g (g1 171 (by decide) (by decide))]
  have a3 : (pj_fi G2 2 1).toInt = (pj_fi G1 2 1).toInt := by rw [show pj_fi G2 2 1 = pj_fi G1 2 1 from j2.1 (2, 1) (by decide)]
  have a4 : (pj_fi G2 171 16).toInt = (pj_fi G1 171 16).toInt := by rw [show pj_fi G2 171 16 = pj_fi G1 171 16 from j2.1 (171, 16) (by decide)]
  refine ⟨G2, 0, 0, ⟨i2, (pj_RI_k hR1 j2 rfl), (by have q9 : pj_fi G2 171 30 = pj_fi G1 171 30 := j2.1 (171, 30) (by decide); rw [q9]; exact hU1), ⟨by omega, fun j hj => by rw [j2.2.2 3 (by decide) j, j2.2.2 180 (by decide) j, j1.2.2 3 (by decide) j, j1.2.2 180 (by decide) j]; exact hE2 j (by omega)⟩, mr_FR (mr_FX (mr_FG (mr_FC hF j1 rfl rfl) g1) j2 rfl rfl) j2 rfl, mr_Nk hN ((j2.1 (171, 7) (by decide)).trans (mr_gi (g1 171 (by decide) (by decide)))), mr_KR (mr_KX (mr_KG (mr_KC hK j1 rfl rfl) g1) j2 rfl rfl) j2 rfl, mr_En (mr_ER (mr_EC (mr_EG (mr_EC hE6 hI j1 rfl) i1 g1) i1 j2 rfl) i2 j2 rfl)⟩, by decide, by decide, fun r hr => ?_⟩
  refine pj_R_tz (M' := pj_cs10) rfl pj_cs10_s (G, 517, [(4, .int v4), (3, .ref 203), (2, .ref 171), (1, .ref 1), (0, .ref 0)], [.int (v4 + (Int32.ofInt 1)), .ref 0, .ref 1], mc, ms) 517 6 (fun _ => rfl) ?_
  refine pj_R_sl (pj_cs10_s _ _ rfl) (by omega) (by omega) ?_
  show pj_R _ _ _ _ (G, 518, [(4, .int v4), (3, .ref 203), (2, .ref 171), (1, .ref 1), (0, .ref 0)], [.int (xs (v4 + (Int32.ofInt 1)).toNatClampNeg), .ref 1], mc, ms) _
  refine pj_R_tz (M' := pj_cs10) rfl pj_cs10_s (G, 523, [(4, .int v4), (3, .ref 203), (2, .ref 171), (1, .ref 1), (0, .ref 0)], [.int (v4 + (Int32.ofInt 2)), .ref 0, .int (xs (v4 + (Int32.ofInt 1)).toNatClampNeg), .ref 1], mc, ms) 523 5 (fun _ => rfl) ?_
  refine pj_R_sl (pj_cs10_s _ _ rfl) (by omega) (by omega) ?_
  show pj_R _ _ _ _ (G, 524, [(4, .int v4), (3, .ref 203), (2, .ref 171), (1, .ref 1), (0, .ref 0)], [.int (xs (v4 + (Int32.ofInt 2)).toNatClampNeg), .int (xs (v4 + (Int32.ofInt 1)).toNatClampNeg), .ref 1], mc, ms) _
  refine pj_R_ca pj_lz_mon (vs := [.ref 1, .int (xs (v4 + (Int32.ofInt 1)).toNatClampNeg), .int (xs (v4 + (Int32.ofInt 2)).toNatClampNeg)]) (S2 := [.int y1]) (pj_cs10_s _ _ rfl) (fun _ => rfl) ⟨Nat.le_of_ble_eq_true rfl, Nat.le_of_ble_eq_true rfl, pj_T_rcv hI rfl⟩ ⟨rfl, rfl, rfl⟩ (pj_E_lz (by decide) (by decide) q1) ?_
  show pj_R _ _ _ _ (G1, 527, [(4, .int v4), (3, .ref 203), (2, .ref 171), (1, .ref 1), (0, .ref 0)], [.int y1], mc, ms) _
  refine pj_R_tz (M' := pj_cs10) rfl pj_cs10_s (G1, 534, [(4, .int v4), (3, .ref 203), (2, .ref 171), (1, .ref 1), (0, .ref 0)], [.int (v4 + (Int32.ofInt 1)), .ref 0, .ref 171], mc, ms) 534 7 (fun _ => rfl) ?_
  refine pj_R_sl (pj_cs10_s _ _ rfl) (by omega) (by omega) ?_
  show pj_R _ _ _ _ (G1, 535, [(4, .int v4), (3, .ref 203), (2, .ref 171), (1, .ref 1), (0, .ref 0)], [.int (xs (v4 + (Int32.ofInt 1)).toNatClampNeg), .ref 171], mc, ms) _
  refine pj_R_tz (M' := pj_cs10) rfl pj_cs10_s (G1, 540, [(4, .int v4), (3, .ref 203), (2, .ref 171), (1, .ref 1), (0, .ref 0)], [.int (v4 + (Int32.ofInt 2)), .ref 0, .int (xs (v4 + (Int32.ofInt 1)).toNatClampNeg), .ref 171], mc, ms) 540 5 (fun _ => rfl) ?_
  refine pj_R_sl (pj_cs10_s _ _ rfl) (by omega) (by omega) ?_
  show pj_R _ _ _ _ (G1, 541, [(4, .int v4), (3, .ref 203), (2, .ref 171), (1, .ref 1), (0, .ref 0)], [.int (xs (v4 + (Int32.ofInt 2)).toNatClampNeg), .int (xs (v4 + (Int32.ofInt 1)).toNatClampNeg), .ref 171], mc, ms) _
  refine pj_R_ca pj_lz_mon (vs := [.ref 171, .int (xs (v4 + (Int32.ofInt 1)).toNatClampNeg), .int (xs (v4 + (Int32.ofInt 2)).toNatClampNeg)]) (S2 := [.int y2]) (pj_cs10_s _ _ rfl) (fun _ => rfl) ⟨Nat.le_of_ble_eq_true rfl, Nat.le_of_ble_eq_true rfl, pj_T_rcv i1 rfl⟩ ⟨rfl, rfl, rfl⟩ (pj_E_lz (by decide) (by decide) q2) ?_
  show pj_R _ _ _ _ (G2, 544, [(4, .int v4), (3, .ref 203), (2, .ref 171), (1, .ref 1), (0, .ref 0)], [.int y2], mc, ms) _
  refine pj_R_tz (M' := pj_cs10) rfl pj_cs10_s (G2, 1484, [(4, .int v4), (3, .ref 203), (2, .ref 171), (1, .ref 1), (0, .ref 0)], [], mc, ms) 1484 3 (fun _ => rfl) ?_
  exact hr
