def pj_cs11 : pj_M := (pj_law.1, pj_law.2.1, 8, some .boolean, pj_law.2.2.2.2.1, [(548, .aload_n 1, 1, [], 0), (549, .aload_n 0, 1, [], 0), (550, .iload 4, 2, [], 0), (552, .iconst 1, 1, [], 0), (553, .iadd, 1, [], 0), (554, .iaload, 1, [], 0), (555, .aload_n 0, 1, [], 0), (556, .iload 4, 2, [], 0), (558, .iconst 2, 1, [], 0), (559, .iadd, 1, [], 0), (560, .iaload, 1, [], 0), (561, .invokevirtual 77, 3, [0, 3, 128, 11, 797], 0), (564, .pop, 1, [], 0), (565, .aload_n 2, 1, [], 0), (566, .aload_n 0, 1, [], 0), (567, .iload 4, 2, [], 0), (569, .iconst 1, 1, [], 0), (570, .iadd, 1, [], 0), (571, .iaload, 1, [], 0), (572, .aload_n 0, 1, [], 0), (573, .iload 4, 2, [], 0), (575, .iconst 2, 1, [], 0), (576, .iadd, 1, [], 0), (577, .iaload, 1, [], 0), (578, .invokevirtual 80, 3, [0, 3, 225, 12, 1735], 0), (581, .pop, 1, [], 0), (582, .goto 902, 3, [1484], 0)])
set_option maxRecDepth 100000 in
theorem pj_cs11_ok : pj_cs11.2.2.2.2.2.all (fun q => decide (pj_find pj_law.2.2.2.2.2 q.1 = some q.2)) = true := by decide +kernel
theorem pj_cs11_s : ∀ pc q, pj_find pj_cs11.2.2.2.2.2 pc = some q → pj_find pj_law.2.2.2.2.2 pc = some q := fun pc q hq => of_decide_eq_true (List.all_eq_true.mp pj_cs11_ok (pc, q) (pj_find_s hq))
set_option maxRecDepth 100000 in
set_option maxHeartbeats 8000000 in
theorem lw_11 {k : Nat} {xs : Nat → Int32} (hk : k ≤ 2560) (G : pj_G) (v4 : Int32) (hG : pj_LI v4.toInt G) (h0 : 0 ≤ v4.toInt) (h5 : v4.toInt + 5 ≤ k) (mc ms : Nat) : ∃ (G' : pj_G) (dc ds : Nat), pj_LI (v4.toInt + 5) G' ∧ dc ≤ 1 ∧ ds ≤ 6 ∧ ∀ r, pj_R pj_lz (k + 1) xs pj_law (G', 1484, [(4, .int v4), (3, .ref 203), (2, .ref 171), (1, .ref 1), (0, .ref 0)], [], mc + dc, ms + ds) r → pj_R pj_lz (k + 1) xs pj_law (G, 548, [(4, .int v4), (3, .ref 203), (2, .ref 171), (1, .ref 1), (0, .ref 0)], [], mc, ms) r := by
  have ix1 : (v4 + Int32.ofInt 1).toInt = v4.toInt + 1 := pj_ix5 (by decide) h0 (by omega) (by decide) (by decide)
  have ix2 : (v4 + Int32.ofInt 2).toInt = v4.toInt + 2 := pj_ix5 (by decide) h0 (by omega) (by decide) (by decide)
  have ix3 : (v4 + Int32.ofInt 3).toInt = v4.toInt + 3 := pj_ix5 (by decide) h0 (by omega) (by decide) (by decide)
  have ix4 : (v4 + Int32.ofInt 4).toInt = v4.toInt + 4 := pj_ix5 (by decide) h0 (by omega) (by decide) (by decide)
  obtain ⟨hI, hR, hU, hT, hF, hN, hK, hE6⟩ := hG
  have hE1 := hT.1
  have hE2 := hT.2
  obtain ⟨v1, G1, q1, y1, rfl, i1, j1, -, e1, f1⟩ := ct_128nx G hI (xs (v4 + Int32.ofInt 1).toNatClampNeg) (xs (v4 + Int32.ofInt 2).toNatClampNeg) 
  replace e1 := e1 _ rfl
  have g1 : ∀ b, 171 ≤ b → b < 203 → pj_get G1 b = pj_get G b := fun b h1 h2 => j1.2.1.1 b (pj_nc h1 h2 rfl)
  have hR1 : pj_RI G1 := pj_RI_g g1 hR
  have hU1 : (pj_fi G1 171 30).toInt ≤ 15 := pj_UN_g g1 hU
  obtain ⟨v2, G2, q2, y2, rfl, i2, j2, -, e2, f2⟩ := ct_225x G1 i1 (xs (v4 + Int32.ofInt 1).toNatClampNeg) (xs (v4 + Int32.ofInt 2).toNatClampNeg) hR1 hU1
  have a1 : (pj_fi G1 2 1).toInt = (pj_fi G 2 1).toInt := by rw [show pj_fi G1 2 1 = pj_fi G 2 1 from j1.1 (2, 1) (by decide)]
  have a2 : (pj_fi G1 171 16).toInt = (pj_fi G 171 16).toInt := by rw [pj_fi_g (g1 171 (by decide) (by decide))]
  have a3 : (pj_fi G2 2 1).toInt = (pj_fi G1 2 1).toInt := by rw [show pj_fi G2 2 1 = pj_fi G1 2 1 from j2.1 (2, 1) (by decide)]
  have a4 : (pj_fi G2 171 16).toInt = (pj_fi G1 171 16).toInt := by rw [show pj_fi G2 171 16 = pj_fi G1 171 16 from j2.1 (171, 16) (by decide)]
  refine ⟨G2, 0, 0, ⟨i2, (pj_RI_k hR1 j2 rfl), (by omega), ⟨by omega, fun j hj => by rw [j2.2.2 3 (by decide) j, j2.2.2 180 (by decide) j, j1.2.2 3 (by decide) j, j1.2.2 180 (by decide) j]; exact hE2 j (by omega)⟩, mr_FR (mr_FX (mr_FG (mr_FP hF j1 rfl e1) g1) j2 rfl rfl) j2 rfl, mr_Nk hN ((j2.1 (171, 7) (by decide)).trans (mr_gi (g1 171 (by decide) (by decide)))), mr_KR (mr_KX (mr_KG (mr_KP hK j1 rfl (e1 hF.2.1).2.1 (e1 hF.2.1).2.2) g1) j2 rfl rfl) j2 rfl, mr_EC (by have z := (mr_e11 (by omega) hI i1 (mr_FG hF g1) hR1 hU1 (mr_EG hE6 hI g1) (xs (v4 + Int32.ofInt 1).toNatClampNeg) (xs (v4 + Int32.ofInt 2).toNatClampNeg)).2; rw [← f1] at z; dsimp only at z; rw [← f2] at z; exact z) i1 j2 rfl⟩, by decide, by decide, fun r hr => ?_⟩
  refine pj_R_tz (M' := pj_cs11) rfl pj_cs11_s (G, 554, [(4, .int v4), (3, .ref 203), (2, .ref 171), (1, .ref 1), (0, .ref 0)], [.int (v4 + (Int32.ofInt 1)), .ref 0, .ref 1], mc, ms) 554 6 (fun _ => rfl) ?_
  refine pj_R_sl (pj_cs11_s _ _ rfl) (by omega) (by omega) ?_
  show pj_R _ _ _ _ (G, 555, [(4, .int v4), (3, .ref 203), (2, .ref 171), (1, .ref 1), (0, .ref 0)], [.int (xs (v4 + (Int32.ofInt 1)).toNatClampNeg), .ref 1], mc, ms) _
  refine pj_R_tz (M' := pj_cs11) rfl pj_cs11_s (G, 560, [(4, .int v4), (3, .ref 203), (2, .ref 171), (1, .ref 1), (0, .ref 0)], [.int (v4 + (Int32.ofInt 2)), .ref 0, .int (xs (v4 + (Int32.ofInt 1)).toNatClampNeg), .ref 1], mc, ms) 560 5 (fun _ => rfl) ?_
  refine pj_R_sl (pj_cs11_s _ _ rfl) (by omega) (by omega) ?_
  show pj_R _ _ _ _ (G, 561, [(4, .int v4), (3, .ref 203), (2, .ref 171), (1, .ref 1), (0, .ref 0)], [.int (xs (v4 + (Int32.ofInt 2)).toNatClampNeg), .int (xs (v4 + (Int32.ofInt 1)).toNatClampNeg), .ref 1], mc, ms) _
  refine pj_R_ca pj_lz_mon (vs := [.ref 1, .int (xs (v4 + (Int32.ofInt 1)).toNatClampNeg), .int (xs (v4 + (Int32.ofInt 2)).toNatClampNeg)]) (S2 := [.int y1]) (pj_cs11_s _ _ rfl) (fun _ => rfl) ⟨Nat.le_of_ble_eq_true rfl, Nat.le_of_ble_eq_true rfl, pj_T_rcv hI rfl⟩ ⟨rfl, rfl, rfl⟩ (pj_E_lz (by decide) (by decide) q1) ?_
  show pj_R _ _ _ _ (G1, 564, [(4, .int v4), (3, .ref 203), (2, .ref 171), (1, .ref 1), (0, .ref 0)], [.int y1], mc, ms) _
  refine pj_R_tz (M' := pj_cs11) rfl pj_cs11_s (G1, 571, [(4, .int v4), (3, .ref 203), (2, .ref 171), (1, .ref 1), (0, .ref 0)], [.int (v4 + (Int32.ofInt 1)), .ref 0, .ref 171], mc, ms) 571 7 (fun _ => rfl) ?_
  refine pj_R_sl (pj_cs11_s _ _ rfl) (by omega) (by omega) ?_
  show pj_R _ _ _ _ (G1, 572, [(4, .int v4), (3, .ref 203), (2, .ref 171), (1, .ref 1), (0, .ref 0)], [.int (xs (v4 + (Int32.ofInt 1)).toNatClampNeg), .ref 171], mc, ms) _
  refine pj_R_tz (M' := pj_cs11) rfl pj_cs11_s (G1, 577, [(4, .int v4), (3, .ref 203), (2, .ref 171), (1, .ref 1), (0, .ref 0)], [.int (v4 + (Int32.ofInt 2)), .ref 0, .int (xs (v4 + (Int32.ofInt 1)).toNatClampNeg), .ref 171], mc, ms) 577 5 (fun _ => rfl) ?_
  refine pj_R_sl (pj_cs11_s _ _ rfl) (by omega) (by omega) ?_
  show pj_R _ _ _ _ (G1, 578, [(4, .int v4), (3, .ref 203), (2, .ref 171), (1, .ref 1), (0, .ref 0)], [.int (xs (v4 + (Int32.ofInt 2)).toNatClampNeg), .int (xs (v4 + (Int32.ofInt 1)).toNatClampNeg), .ref 171], mc, ms) _
  refine pj_R_ca pj_lz_mon (vs := [.ref 171, .int (xs (v4 + (Int32.ofInt 1)).toNatClampNeg), .int (xs (v4 + (Int32.ofInt 2)).toNatClampNeg)]) (S2 := [.int y2]) (pj_cs11_s _ _ rfl) (fun _ => rfl) ⟨Nat.le_of_ble_eq_true rfl, Nat.le_of_ble_eq_true rfl, pj_T_rcv i1 rfl⟩ ⟨rfl, rfl, rfl⟩ (pj_E_lz (by decide) (by decide) q2) ?_
  show pj_R _ _ _ _ (G2, 581, [(4, .int v4), (3, .ref 203), (2, .ref 171), (1, .ref 1), (0, .ref 0)], [.int y2], mc, ms) _
  refine pj_R_tz (M' := pj_cs11) rfl pj_cs11_s (G2, 1484, [(4, .int v4), (3, .ref 203), (2, .ref 171), (1, .ref 1), (0, .ref 0)], [], mc, ms) 1484 3 (fun _ => rfl) ?_
  exact hr
def pj_cs12 : pj_M := (pj_law.1, pj_law.2.1, 8, some .boolean, pj_law.2.2.2.2.1, [(585, .aload_n 1, 1, [], 0), (586, .aload_n 0, 1, [], 0), (587, .iload 4, 2, [], 0), (589, .iconst 1, 1, [], 0), (590, .iadd, 1, [], 0), (591, .iaload, 1, [], 0), (592, .aload_n 0, 1, [], 0), (593, .iload 4, 2, [], 0), (595, .iconst 2, 1, [], 0), (596, .iadd, 1, [], 0), (597, .iaload, 1, [], 0), (598, .invokevirtual 81, 3, [0, 3, 129, 11, 822], 0), (601, .pop, 1, [], 0), (602, .aload_n 2, 1, [], 0), (603, .aload_n 0, 1, [], 0), (604, .iload 4, 2, [], 0), (606, .iconst 1, 1, [], 0), (607, .iadd, 1, [], 0), (608, .iaload, 1, [], 0), (609, .aload_n 0, 1, [], 0), (610, .iload 4, 2, [], 0), (612, .iconst 2, 1, [], 0), (613, .iadd, 1, [], 0), (614, .iaload, 1, [], 0), (615, .invokevirtual 84, 3, [0, 3, 226, 12, 1755], 0), (618, .pop, 1, [], 0), (619, .goto 865, 3, [1484], 0)])
set_option maxRecDepth 100000 in
theorem pj_cs12_ok : pj_cs12.2.2.2.2.2.all (fun q => decide (pj_find pj_law.2.2.2.2.2 q.1 = some q.2)) = true := by decide +kernel
theorem pj_cs12_s : ∀ pc q, pj_find pj_cs12.2.2.2.2.2 pc = some q → pj_find pj_law.2.2.2.2.2 pc = some q := fun pc q hq => of_decide_eq_true (List.all_eq_true.mp pj_cs12_ok (pc, q) (pj_find_s hq))
set_option maxRecDepth 100000 in
set_option maxHeartbeats 8000000 in
theorem lw_12 {k : Nat} {xs : Nat → Int32} (hk : k ≤ 2560) (G : pj_G) (v4 : Int32) (hG : pj_LI v4.toInt G) (h0 : 0 ≤ v4.toInt) (h5 : v4.toInt + 5 ≤ k) (mc ms : Nat) : ∃ (G' : pj_G) (dc ds : Nat), pj_LI (v4.toInt + 5) G' ∧ dc ≤ 1 ∧ ds ≤ 6 ∧ ∀ r, pj_R pj_lz (k + 1) xs pj_law (G', 1484, [(4, .int v4), (3, .ref 203), (2, .ref 171), (1, .ref 1), (0, .ref 0)], [], mc + dc, ms + ds) r → pj_R pj_lz (k + 1) xs pj_law (G, 585, [(4, .int v4), (3, .ref 203), (2, .ref 171), (1, .ref 1), (0, .ref 0)], [], mc, ms) r := by
  have ix1 : (v4 + Int32.ofInt 1).toInt = v4.toInt + 1 := pj_ix5 (by decide) h0 (by omega) (by decide) (by decide)
  have ix2 : (v4 + Int32.ofInt 2).toInt = v4.toInt + 2 := pj_ix5 (by decide) h0 (by omega) (by decide) (by decide)
  have ix3 : (v4 + Int32.ofInt 3).toInt = v4.toInt + 3 := pj_ix5 (by decide) h0 (by omega) (by decide) (by decide)
  have ix4 : (v4 + Int32.ofInt 4).toInt = v4.toInt + 4 := pj_ix5 (by decide) h0 (by omega) (by decide) (by decide)
  obtain ⟨hI, hR, hU, hT, hF, hN, hK, hE6⟩ := hG
  have hE1 := hT.1
  have hE2 := hT.2
  obtain ⟨v1, G1, q1, y1, rfl, i1, j1, -, e1, f1⟩ := ct_129nx G hI (xs (v4 + Int32.ofInt 1).toNatClampNeg) (xs (v4 + Int32.ofInt 2).toNatClampNeg) 
  replace e1 := e1 _ rfl
  have g1 : ∀ b, 171 ≤ b → b < 203 → pj_get G1 b = pj_get G b := fun b h1 h2 => j1.2.1.1 b (pj_nc h1 h2 rfl)
  have hR1 : pj_RI G1 := pj_RI_g g1 hR
  have hU1 : (pj_fi G1 171 30).toInt ≤ 15 := pj_UN_g g1 hU
  obtain ⟨v2, G2, q2, y2, rfl, i2, j2, -, e2, f2⟩ := ct_226x G1 i1 (xs (v4 + Int32.ofInt 1).toNatClampNeg) (xs (v4 + Int32.ofInt 2).toNatClampNeg) hU1
  have a1 : (pj_fi G1 2 1).toInt = (pj_fi G 2 1).toInt := by rw [show pj_fi G1 2 1 = pj_fi G 2 1 from j1.1 (2, 1) (by decide)]
  have a2 : (pj_fi G1 171 16).toInt = (pj_fi G 171 16).toInt := by rw [pj_fi_g (g1 171 (by decide) (by decide))]
  have a3 : (pj_fi G2 2 1).toInt = (pj_fi G1 2 1).toInt := by rw [show pj_fi G2 2 1 = pj_fi G1 2 1 from j2.1 (2, 1) (by decide)]
  have a4 : (pj_fi G2 171 16).toInt = (pj_fi G1 171 16).toInt := by rw [show pj_fi G2 171 16 = pj_fi G1 171 16 from j2.1 (171, 16) (by decide)]
  refine ⟨G2, 0, 0, ⟨i2, (pj_RI_k hR1 j2 rfl), (by omega), ⟨by omega, fun j hj => by rw [j2.2.2 3 (by decide) j, j2.2.2 180 (by decide) j, j1.2.2 3 (by decide) j, j1.2.2 180 (by decide) j]; exact hE2 j (by omega)⟩, mr_FR (mr_FX (mr_FG (mr_FP hF j1 rfl e1) g1) j2 rfl rfl) j2 rfl, mr_Nk hN ((j2.1 (171, 7) (by decide)).trans (mr_gi (g1 171 (by decide) (by decide)))), mr_KR (mr_KX (mr_KG (mr_KP hK j1 rfl (e1 hF.2.1).2.1 (e1 hF.2.1).2.2) g1) j2 rfl rfl) j2 rfl, mr_EC (by have z := (mr_e12 (by omega) hI i1 (mr_FG hF g1) hR1 hU1 (mr_EG hE6 hI g1) (xs (v4 + Int32.ofInt 1).toNatClampNeg) (xs (v4 + Int32.ofInt 2).toNatClampNeg)).2; rw [← f1] at z; dsimp only at z; rw [← f2] at z; exact z) i1 j2 rfl⟩, by decide, by decide, fun r hr => ?_⟩
  refine pj_R_tz (M' := pj_cs12) rfl pj_cs12_s (G, 591, [(4, .int v4), (3, .ref 203), (2, .ref 171), (1, .ref 1), (0, .ref 0)], [.int (v4 + (Int32.ofInt 1)), .ref 0, .ref 1], mc, ms) 591 6 (fun _ => rfl) ?_
  refine pj_R_sl (pj_cs12_s _ _ rfl) (by omega) (by omega) ?_
  show pj_R _ _ _ _ (G, 592, [(4, .int v4), (3, .ref 203), (2, .ref 171), (1, .ref 1), (0, .ref 0)], [.int (xs (v4 + (Int32.ofInt 1)).toNatClampNeg), .ref 1], mc, ms) _
  refine pj_R_tz (M' := pj_cs12) rfl pj_cs12_s (G, 597, [(4, .int v4), (3, .ref 203), (2, .ref 171), (1, .ref 1), (0, .ref 0)], [.int (v4 + (Int32.ofInt 2)), .ref 0, .int (xs (v4 + (Int32.ofInt 1)).toNatClampNeg), .ref 1], mc, ms) 597 5 (fun _ => rfl) ?_
  refine pj_R_sl (pj_cs12_s _ _ rfl) (by omega) (by omega) ?_
  show pj_R _ _ _ _ (G, 598, [(4, .int v4), (3, .ref 203), (2, .ref 171), (1, .ref 1), (0, .ref 0)], [.int (xs (v4 + (Int32.ofInt 2)).toNatClampNeg), .int (xs (v4 + (Int32.ofInt 1)).toNatClampNeg), .ref 1], mc, ms) _
  refine pj_R_ca pj_lz_mon (vs := [.ref 1, .int (xs (v4 + (Int32.ofInt 1)).toNatClampNeg), .int (xs (v4 + (Int32.ofInt 2)).toNatClampNeg)]) (S2 := [.int y1]) (pj_cs12_s _ _ rfl) (fun _ => rfl) ⟨Nat.le_of_ble_eq_true rfl, Nat.le_of_ble_eq_true rfl, pj_T_rcv hI rfl⟩ ⟨rfl, rfl, rfl⟩ (pj_E_lz (by decide) (by decide) q1) ?_
  show pj_R _ _ _ _ (G1, 601, [(4, .int v4), (3, .ref 203), (2, .ref 171), (1, .ref 1), (0, .ref 0)], [.int y1], mc, ms) _
  refine pj_R_tz (M' := pj_cs12) rfl pj_cs12_s (G1, 608, [(4, .int v4), (3, .ref 203), (2, .ref 171), (1, .ref 1), (0, .ref 0)], [.int (v4 + (Int32.ofInt 1)), .ref 0, .ref 171], mc, ms) 608 7 (fun _ => rfl) ?_
  refine pj_R_sl (pj_cs12_s _ _ rfl) (by omega) (by omega) ?_
  show pj_R _ _ _ _ (G1, 609, [(4, .int v4), (3, .ref 203), (2, .ref 171), (1, .ref 1), (0, .ref 0)], [.int (xs (v4 + (Int32.ofInt 1)).toNatClampNeg), .ref 171], mc, ms) _
  refine pj_R_tz (M' := pj_cs12) rfl pj_cs12_s (G1, 614, [(4, .int v4), (3, .ref 203), (2, .ref 171), (1, .ref 1), (0, .ref 0)], [.int (v4 + (Int32.ofInt 2)), .ref 0, .int (xs (v4 + (Int32.ofInt 1)).toNatClampNeg), .ref 171], mc, ms) 614 5 (fun _ => rfl) ?_
  refine pj_R_sl (pj_cs12_s _ _ rfl) (by omega) (by omega) ?_
  show pj_R _ _ _ _ (G1, 615, [(4, .int v4), (3, .ref 203), (2, .ref 171), (1, .ref 1), (0, .ref 0)], [.int (xs (v4 + (Int32.ofInt 2)).toNatClampNeg), .int (xs (v4 + (Int32.ofInt 1)).toNatClampNeg), .ref 171], mc, ms) _
  refine pj_R_ca pj_lz_mon (vs := [.ref 171, .int (xs (v4 + (Int32.ofInt 1)).toNatClampNeg), .int (xs (v4 + (Int32.ofInt 2)).toNatClampNeg)]) (S2 := [.int y2]) (pj_cs12_s _ _ rfl) (fun _ => rfl) ⟨Nat.le_of_ble_eq_true rfl, Nat.le_of_ble_eq_true rfl, pj_T_rcv i1 rfl⟩ ⟨rfl, rfl, rfl⟩ (pj_E_lz (by decide) (by decide) q2) ?_
  show pj_R _ _ _ _ (G2, 618, [(4, .int v4), (3, .ref 203), (2, .ref 171), (1, .ref 1), (0, .ref 0)], [.int y2], mc, ms) _
  refine pj_R_tz (M' := pj_cs12) rfl pj_cs12_s (G2, 1484, [(4, .int v4), (3, .ref 203), (2, .ref 171), (1, .ref 1), (0, .ref 0)], [], mc, ms) 1484 3 (fun _ => rfl) ?_
  exact hr
def pj_cs13 : pj_M := (pj_law.1, pj_law.2.1, 8, some .boolean, pj_law.2.2.2.2.1, [(622, .aload_n 1, 1, [], 0), (623, .aload_n 0, 1, [], 0), (624, .iload 4, 2, [], 0), (626, .iconst 1, 1, [], 0), (627, .iadd, 1, [], 0), (628, .iaload, 1, [], 0), (629, .aload_n 0, 1, [], 0), (630, .iload 4, 2, [], 0), (632, .iconst 2, 1, [], 0), (633, .iadd, 1, [], 0), (634, .iaload, 1, [], 0), (635, .invokevirtual 85, 3, [0, 3, 130, 11, 831], 0), (638, .aload_n 2, 1, [], 0), (639, .aload_n 0, 1, [], 0), (640, .iload 4, 2, [], 0), (642, .iconst 1, 1, [], 0), (643, .iadd, 1, [], 0), (644, .iaload, 1, [], 0), (645, .aload_n 0, 1, [], 0), (646, .iload 4, 2, [], 0), (648, .iconst 2, 1, [], 0), (649, .iadd, 1, [], 0), (650, .iaload, 1, [], 0), (651, .invokevirtual 88, 3, [0, 3, 227, 12, 1764], 0), (654, .if_icmp .eq 830, 3, [1484], 0), (657, .iconst 0, 1, [], 0), (658, .ireturn, 1, [], 0)])
set_option maxRecDepth 100000 in
theorem pj_cs13_ok : pj_cs13.2.2.2.2.2.all (fun q => decide (pj_find pj_law.2.2.2.2.2 q.1 = some q.2)) = true := by decide +kernel
theorem pj_cs13_s : ∀ pc q, pj_find pj_cs13.2.2.2.2.2 pc = some q → pj_find pj_law.2.2.2.2.2 pc = some q := fun pc q hq => of_decide_eq_true (List.all_eq_true.mp pj_cs13_ok (pc, q) (pj_find_s hq))
set_option maxRecDepth 100000 in
set_option maxHeartbeats 8000000 in
theorem lw_13 {k : Nat} {xs : Nat → Int32} (hk : k ≤ 2560) (G : pj_G) (v4 : Int32) (hG : pj_LI v4.toInt G) (h0 : 0 ≤ v4.toInt) (h5 : v4.toInt + 5 ≤ k) (mc ms : Nat) : ∃ (G' : pj_G) (dc ds : Nat), pj_LI (v4.toInt + 5) G' ∧ dc ≤ 1 ∧ ds ≤ 6 ∧ ∀ r, pj_R pj_lz (k + 1) xs pj_law (G', 1484, [(4, .int v4), (3, .ref 203), (2, .ref 171), (1, .ref 1), (0, .ref 0)], [], mc + dc, ms + ds) r → pj_R pj_lz (k + 1) xs pj_law (G, 622, [(4, .int v4), (3, .ref 203), (2, .ref 171), (1, .ref 1), (0, .ref 0)], [], mc, ms) r := by
  have ix1 : (v4 + Int32.ofInt 1).toInt = v4.toInt + 1 := pj_ix5 (by decide) h0 (by omega) (by decide) (by decide)
  have ix2 : (v4 + Int32.ofInt 2).toInt = v4.toInt + 2 := pj_ix5 (by decide) h0 (by omega) (by decide) (by decide)
  have ix3 : (v4 + Int32.ofInt 3).toInt = v4.toInt + 3 := pj_ix5 (by decide) h0 (by omega) (by decide) (by decide)
  have ix4 : (v4 + Int32.ofInt 4).toInt = v4.toInt + 4 := pj_ix5 (by decide) h0 (by omega) (by decide) (by decide)
  obtain ⟨hI, hR, hU, hT, hF, hN, hK, hE6⟩ := hG
  have hE1 := hT.1
  have hE2 := hT.2
  obtain ⟨v1, G1, q1, y1, rfl, i1, j1, -, e1, f1⟩ := ct_130nx G hI (xs (v4 + Int32.ofInt 1).toNatClampNeg) (xs (v4 + Int32.ofInt 2).toNatClampNeg) 
  replace e1 := e1 _ rfl
  have g1 : ∀ b, 171 ≤ b → b < 203 → pj_get G1 b = pj_get G b := fun b h1 h2 => j1.2.1.1 b (pj_nc h1 h2 rfl)
  have hR1 : pj_RI G1 := pj_RI_g g1 hR
  have hU1 : (pj_fi G1 171 30).toInt ≤ 15 := pj_UN_g g1 hU
  obtain ⟨v2, G2, q2, y2, rfl, i2, j2, -, e2, f2⟩ := ct_227x G1 i1 (xs (v4 + Int32.ofInt 1).toNatClampNeg) (xs (v4 + Int32.ofInt 2).toNatClampNeg) hU1
  have a1 : (pj_fi G1 2 1).toInt = (pj_fi G 2 1).toInt := by rw [show pj_fi G1 2 1 = pj_fi G 2 1 from j1.1 (2, 1) (by decide)]
  have a2 : (pj_fi G1 171 16).toInt = (pj_fi G 171 16).toInt := by rw [pj_fi_g (g1 171 (by decide) (by decide))]
  have a3 : (pj_fi G2 2 1).toInt = (pj_fi G1 2 1).toInt := by rw [show pj_fi G2 2 1 = pj_fi G1 2 1 from j2.1 (2, 1) (by decide)]
  have a4 : (pj_fi G2 171 16).toInt = (pj_fi G1 171 16).toInt := by rw [show pj_fi G2 171 16 = pj_fi G1 171 16 from j2.1 (171, 16) (by decide)]
  refine ⟨G2, 0, 0, ⟨i2, (pj_RI_k hR1 j2 rfl), (by omega), ⟨by omega, fun j hj => by rw [j2.2.2 3 (by decide) j, j2.2.2 180 (by decide) j, j1.2.2 3 (by decide) j, j1.2.2 180 (by decide) j]; exact hE2 j (by omega)⟩, mr_FR (mr_FX (mr_FG (mr_FP hF j1 rfl e1) g1) j2 rfl rfl) j2 rfl, mr_Nk hN ((j2.1 (171, 7) (by decide)).trans (mr_gi (g1 171 (by decide) (by decide)))), mr_KR (mr_KX (mr_KG (mr_KP hK j1 rfl (e1 hF.2.1).2.1 (e1 hF.2.1).2.2) g1) j2 rfl rfl) j2 rfl, mr_EC (by have z := (mr_e13 (by omega) hI i1 (mr_FG hF g1) hR1 hU1 (mr_EG hE6 hI g1) (xs (v4 + Int32.ofInt 1).toNatClampNeg) (xs (v4 + Int32.ofInt 2).toNatClampNeg)).2; rw [← f1] at z; dsimp only at z; rw [← f2] at z; exact z) i1 j2 rfl⟩, by decide, by decide, fun r hr => ?_⟩
  refine pj_R_tz (M' := pj_cs13) rfl pj_cs13_s (G, 628, [(4, .int v4), (3, .ref 203), (2, .ref 171), (1, .ref 1), (0, .ref 0)], [.int (v4 + (Int32.ofInt 1)), .ref 0, .ref 1], mc, ms) 628 6 (fun _ => rfl) ?_
  refine pj_R_sl (pj_cs13_s _ _ rfl) (by omega) (by omega) ?_
  show pj_R _ _ _ _ (G, 629, [(4, .int v4), (3, .ref 203), (2, .ref 171), (1, .ref 1), (0, .ref 0)], [.int (xs (v4 + (Int32.ofInt 1)).toNatClampNeg), .ref 1], mc, ms) _
  refine pj_R_tz (M' := pj_cs13) rfl pj_cs13_s (G, 634, [(4, .int v4), (3, .ref 203), (2, .ref 171), (1, .ref 1), (0, .ref 0)], [.int (v4 + (Int32.ofInt 2)), .ref 0, .int (xs (v4 + (Int32.ofInt 1)).toNatClampNeg), .ref 1], mc, ms) 634 5 (fun _ => rfl) ?_
  refine pj_R_sl (pj_cs13_s _ _ rfl) (by omega) (by omega) ?_
  show pj_R _ _ _ _ (G, 635, [(4, .int v4), (3, .ref 203), (2, .ref 171), (1, .ref 1), (0, .ref 0)], [.int (xs (v4 + (Int32.ofInt 2)).toNatClampNeg), .int (xs (v4 + (Int32.ofInt 1)).toNatClampNeg), .ref 1], mc, ms) _
  refine pj_R_ca pj_lz_mon (vs := [.ref 1, .int (xs (v4 + (Int32.ofInt 1)).toNatClampNeg), .int (xs (v4 + (Int32.ofInt 2)).toNatClampNeg)]) (S2 := [.int y1]) (pj_cs13_s _ _ rfl) (fun _ => rfl) ⟨Nat.le_of_ble_eq_true rfl, Nat.le_of_ble_eq_true rfl, pj_T_rcv hI rfl⟩ ⟨rfl, rfl, rfl⟩ (pj_E_lz (by decide) (by decide) q1) ?_
  show pj_R _ _ _ _ (G1, 638, [(4, .int v4), (3, .ref 203), (2, .ref 171), (1, .ref 1), (0, .ref 0)], [.int y1], mc, ms) _
  refine pj_R_tz (M' := pj_cs13) rfl pj_cs13_s (G1, 644, [(4, .int v4), (3, .ref 203), (2, .ref 171), (1, .ref 1), (0, .ref 0)], [.int (v4 + (Int32.ofInt 1)), .ref 0, .ref 171, .int y1], mc, ms) 644 6 (fun _ => rfl) ?_
  refine pj_R_sl (pj_cs13_s _ _ rfl) (by omega) (by omega) ?_
  show pj_R _ _ _ _ (G1, 645, [(4, .int v4), (3, .ref 203), (2, .ref 171), (1, .ref 1), (0, .ref 0)], [.int (xs (v4 + (Int32.ofInt 1)).toNatClampNeg), .ref 171, .int y1], mc, ms) _
  refine pj_R_tz (M' := pj_cs13) rfl pj_cs13_s (G1, 650, [(4, .int v4), (3, .ref 203), (2, .ref 171), (1, .ref 1), (0, .ref 0)], [.int (v4 + (Int32.ofInt 2)), .ref 0, .int (xs (v4 + (Int32.ofInt 1)).toNatClampNeg), .ref 171, .int y1], mc, ms) 650 5 (fun _ => rfl) ?_
  refine pj_R_sl (pj_cs13_s _ _ rfl) (by omega) (by omega) ?_
  show pj_R _ _ _ _ (G1, 651, [(4, .int v4), (3, .ref 203), (2, .ref 171), (1, .ref 1), (0, .ref 0)], [.int (xs (v4 + (Int32.ofInt 2)).toNatClampNeg), .int (xs (v4 + (Int32.ofInt 1)).toNatClampNeg), .ref 171, .int y1], mc, ms) _
  refine pj_R_ca pj_lz_mon (vs := [.ref 171, .int (xs (v4 + (Int32.ofInt 1)).toNatClampNeg), .int (xs (v4 + (Int32.ofInt 2)).toNatClampNeg)]) (S2 := [.int y2, .int y1]) (pj_cs13_s _ _ rfl) (fun _ => rfl) ⟨Nat.le_of_ble_eq_true rfl, Nat.le_of_ble_eq_true rfl, pj_T_rcv i1 rfl⟩ ⟨rfl, rfl, rfl⟩ (pj_E_lz (by decide) (by decide) q2) ?_
  show pj_R _ _ _ _ (G2, 654, [(4, .int v4), (3, .ref 203), (2, .ref 171), (1, .ref 1), (0, .ref 0)], [.int y2, .int y1], mc, ms) _
  have he : y1 = y2 := by have z := (mr_e13 (by omega) hI i1 (mr_FG hF g1) hR1 hU1 (mr_EG hE6 hI g1) (xs (v4 + Int32.ofInt 1).toNatClampNeg) (xs (v4 + Int32.ofInt 2).toNatClampNeg)).1; rw [← f1] at z; dsimp only at z; rw [← f2] at z; exact z
  subst he
  exact pj_R_icT 1484 (pj_cs13_s _ _ rfl) rfl (pj_b_eqT rfl) hr
def pj_cs14 : pj_M := (pj_law.1, pj_law.2.1, 8, some .boolean, pj_law.2.2.2.2.1, [(659, .aload_n 1, 1, [], 0), (660, .aload_n 0, 1, [], 0), (661, .iload 4, 2, [], 0), (663, .iconst 1, 1, [], 0), (664, .iadd, 1, [], 0), (665, .iaload, 1, [], 0), (666, .invokevirtual 89, 3, [0, 2, 131, 11, 848], 0), (669, .pop, 1, [], 0), (670, .aload_n 2, 1, [], 0), (671, .aload_n 0, 1, [], 0), (672, .iload 4, 2, [], 0), (674, .iconst 1, 1, [], 0), (675, .iadd, 1, [], 0), (676, .iaload, 1, [], 0), (677, .invokevirtual 92, 3, [0, 2, 228, 12, 1779], 0), (680, .pop, 1, [], 0), (681, .goto 803, 3, [1484], 0)])
set_option maxRecDepth 100000 in
theorem pj_cs14_ok : pj_cs14.2.2.2.2.2.all (fun q => decide (pj_find pj_law.2.2.2.2.2 q.1 = some q.2)) = true := by decide +kernel
theorem pj_cs14_s : ∀ pc q, pj_find pj_cs14.2.2.2.2.2 pc = some q → pj_find pj_law.2.2.2.2.2 pc = some q := fun pc q hq => of_decide_eq_true (List.all_eq_true.mp pj_cs14_ok (pc, q) (pj_find_s hq))
set_option maxRecDepth 100000 in
set_option maxHeartbeats 8000000 in
theorem lw_14 {k : Nat} {xs : Nat → Int32} (hk : k ≤ 2560) (G : pj_G) (v4 : Int32) (hG : pj_LI v4.toInt G) (h0 : 0 ≤ v4.toInt) (h5 : v4.toInt + 5 ≤ k) (mc ms : Nat) : ∃ (G' : pj_G) (dc ds : Nat), pj_LI (v4.toInt + 5) G' ∧ dc ≤ 1 ∧ ds ≤ 6 ∧ ∀ r, pj_R pj_lz (k + 1) xs pj_law (G', 1484, [(4, .int v4), (3, .ref 203), (2, .ref 171), (1, .ref 1), (0, .ref 0)], [], mc + dc, ms + ds) r → pj_R pj_lz (k + 1) xs pj_law (G, 659, [(4, .int v4), (3, .ref 203), (2, .ref 171), (1, .ref 1), (0, .ref 0)], [], mc, ms) r := by
  have ix1 : (v4 + Int32.ofInt 1).toInt = v4.toInt + 1 := pj_ix5 (by decide) h0 (by omega) (by decide) (by decide)
  have ix2 : (v4 + Int32.ofInt 2).toInt = v4.toInt + 2 := pj_ix5 (by decide) h0 (by omega) (by decide) (by decide)
  have ix3 : (v4 + Int32.ofInt 3).toInt = v4.toInt + 3 := pj_ix5 (by decide) h0 (by omega) (by decide) (by decide)
  have ix4 : (v4 + Int32.ofInt 4).toInt = v4.toInt + 4 := pj_ix5 (by decide) h0 (by omega) (by decide) (by decide)
  obtain ⟨hI, hR, hU, hT, hF, hN, hK, hE6⟩ := hG
  have hE1 := hT.1
  have hE2 := hT.2
  obtain ⟨v1, G1, q1, y1, rfl, i1, j1, -, e1, f1⟩ := ct_131nx G hI (xs (v4 + Int32.ofInt 1).toNatClampNeg) 
  replace e1 := e1 _ rfl
  have g1 : ∀ b, 171 ≤ b → b < 203 → pj_get G1 b = pj_get G b := fun b h1 h2 => j1.2.1.1 b (pj_nc h1 h2 rfl)
  have hR1 : pj_RI G1 := pj_RI_g g1 hR
  have hU1 : (pj_fi G1 171 30).toInt ≤ 15 := pj_UN_g g1 hU
  obtain ⟨v2, G2, q2, y2, rfl, i2, j2, -, e2, f2⟩ := ct_228x G1 i1 (xs (v4 + Int32.ofInt 1).toNatClampNeg) hU1
  have a1 : (pj_fi G1 2 1).toInt = (pj_fi G 2 1).toInt := by rw [show pj_fi G1 2 1 = pj_fi G 2 1 from j1.1 (2, 1) (by decide)]
  have a2 : (pj_fi G1 171 16).toInt = (pj_fi G 171 16).toInt := by rw [pj_fi_g (g1 171 (by decide) (by decide))]
  have a3 : (pj_fi G2 2 1).toInt = (pj_fi G1 2 1).toInt := by rw [show pj_fi G2 2 1 = pj_fi G1 2 1 from j2.1 (2, 1) (by decide)]
  have a4 : (pj_fi G2 171 16).toInt = (pj_fi G1 171 16).toInt := by rw [show pj_fi G2 171 16 = pj_fi G1 171 16 from j2.1 (171, 16) (by decide)]
  refine ⟨G2, 0, 0, ⟨i2, (pj_RI_k hR1 j2 rfl), (by omega), ⟨by omega, fun j hj => by rw [j2.2.2 3 (by decide) j, j2.2.2 180 (by decide) j, j1.2.2 3 (by decide) j, j1.2.2 180 (by decide) j]; exact hE2 j (by omega)⟩, mr_FR (mr_FX (mr_FG (mr_FP hF j1 rfl e1) g1) j2 rfl rfl) j2 rfl, mr_Nk hN ((j2.1 (171, 7) (by decide)).trans (mr_gi (g1 171 (by decide) (by decide)))), mr_KR (mr_KX (mr_KG (mr_KP hK j1 rfl (e1 hF.2.1).2.1 (e1 hF.2.1).2.2) g1) j2 rfl rfl) j2 rfl, mr_EC (by have z := (mr_e14 (by omega) hI i1 (mr_FG hF g1) hR1 hU1 (mr_EG hE6 hI g1) (xs (v4 + Int32.ofInt 1).toNatClampNeg)).2; rw [← f1] at z; dsimp only at z; rw [← f2] at z; exact z) i1 j2 rfl⟩, by decide, by decide, fun r hr => ?_⟩
  refine pj_R_tz (M' := pj_cs14) rfl pj_cs14_s (G, 665, [(4, .int v4), (3, .ref 203), (2, .ref 171), (1, .ref 1), (0, .ref 0)], [.int (v4 + (Int32.ofInt 1)), .ref 0, .ref 1], mc, ms) 665 6 (fun _ => rfl) ?_
  refine pj_R_sl (pj_cs14_s _ _ rfl) (by omega) (by omega) ?_
  show pj_R _ _ _ _ (G, 666, [(4, .int v4), (3, .ref 203), (2, .ref 171), (1, .ref 1), (0, .ref 0)], [.int (xs (v4 + (Int32.ofInt 1)).toNatClampNeg), .ref 1], mc, ms) _
  refine pj_R_ca pj_lz_mon (vs := [.ref 1, .int (xs (v4 + (Int32.ofInt 1)).toNatClampNeg)]) (S2 := [.int y1]) (pj_cs14_s _ _ rfl) (fun _ => rfl) ⟨Nat.le_of_ble_eq_true rfl, Nat.le_of_ble_eq_true rfl, pj_T_rcv hI rfl⟩ ⟨rfl, rfl, rfl⟩ (pj_E_lz (by decide) (by decide) q1) ?_
  show pj_R _ _ _ _ (G1, 669, [(4, .int v4), (3, .ref 203), (2, .ref 171), (1, .ref 1), (0, .ref 0)], [.int y1], mc, ms) _
  refine pj_R_tz (M' := pj_cs14) rfl pj_cs14_s (G1, 676, [(4, .int v4), (3, .ref 203), (2, .ref 171), (1, .ref 1), (0, .ref 0)], [.int (v4 + (Int32.ofInt 1)), .ref 0, .ref 171], mc, ms) 676 7 (fun _ => rfl) ?_
  refine pj_R_sl (pj_cs14_s _ _ rfl) (by omega) (by omega) ?_
  show pj_R _ _ _ _ (G1, 677, [(4, .int v4), (3, .ref 203), (2, .ref 171), (1, .ref 1), (0, .ref 0)], [.int (xs (v4 + (Int32.ofInt 1)).toNatClampNeg), .ref 171], mc, ms) _
  refine pj_R_ca pj_lz_mon (vs := [.ref 171, .int (xs (v4 + (Int32.ofInt 1)).toNatClampNeg)]) (S2 := [.int y2]) (pj_cs14_s _ _ rfl) (fun _ => rfl) ⟨Nat.le_of_ble_eq_true rfl, Nat.le_of_ble_eq_true rfl, pj_T_rcv i1 rfl⟩ ⟨rfl, rfl, rfl⟩ (pj_E_lz (by decide) (by decide) q2) ?_
  show pj_R _ _ _ _ (G2, 680, [(4, .int v4), (3, .ref 203), (2, .ref 171), (1, .ref 1), (0, .ref 0)], [.int y2], mc, ms) _
  refine pj_R_tz (M' := pj_cs14) rfl pj_cs14_s (G2, 1484, [(4, .int v4), (3, .ref 203), (2, .ref 171), (1, .ref 1), (0, .ref 0)], [], mc, ms) 1484 3 (fun _ => rfl) ?_
  exact hr
def pj_cs15 : pj_M := (pj_law.1, pj_law.2.1, 8, some .boolean, pj_law.2.2.2.2.1, [(684, .aload_n 1, 1, [], 0), (685, .invokevirtual 93, 3, [0, 1, 132, 11, 876], 0), (688, .pop, 1, [], 0), (689, .aload_n 2, 1, [], 0), (690, .invokevirtual 96, 3, [0, 1, 231, 12, 1796], 0), (693, .pop, 1, [], 0), (694, .goto 790, 3, [1484], 0)])
set_option maxRecDepth 100000 in
theorem pj_cs15_ok : pj_cs15.2.2.2.2.2.all (fun q => decide (pj_find pj_law.2.2.2.2.2 q.1 = some q.2)) = true := by decide +kernel
theorem pj_cs15_s : ∀ pc q, pj_find pj_cs15.2.2.2.2.2 pc = some q → pj_find pj_law.2.2.2.2.2 pc = some q := fun pc q hq => of_decide_eq_true (List.all_eq_true.mp pj_cs15_ok (pc, q) (pj_find_s hq))
set_option maxRecDepth 100000 in
set_option maxHeartbeats 8000000 in
theorem lw_15 {k : Nat} {xs : Nat → Int32} (hk : k ≤ 2560) (G : pj_G) (v4 : Int32) (hG : pj_LI v4.toInt G) (h0 : 0 ≤ v4.toInt) (h5 : v4.toInt + 5 ≤ k) (mc ms : Nat) : ∃ (G' : pj_G) (dc ds : Nat), pj_LI (v4.toInt + 5) G' ∧ dc ≤ 1 ∧ ds ≤ 6 ∧ ∀ r, pj_R pj_lz (k + 1) xs pj_law (G', 1484, [(4, .int v4), (3, .ref 203), (2, .ref 171), (1, .ref 1), (0, .ref 0)], [], mc + dc, ms + ds) r → pj_R pj_lz (k + 1) xs pj_law (G, 684, [(4, .int v4), (3, .ref 203), (2, .ref 171), (1, .ref 1), (0, .ref 0)], [], mc, ms) r := by
  have ix1 : (v4 + Int32.ofInt 1).toInt = v4.toInt + 1 := pj_ix5 (by decide) h0 (by omega) (by decide) (by decide)
  have ix2 : (v4 + Int32.ofInt 2).toInt = v4.toInt + 2 := pj_ix5 (by decide) h0 (by omega) (by decide) (by decide)
  have ix3 : (v4 + Int32.ofInt 3).toInt = v4.toInt + 3 := pj_ix5 (by decide) h0 (by omega) (by decide) (by decide)
  have ix4 : (v4 + Int32.ofInt 4).toInt = v4.toInt + 4 := pj_ix5 (by decide) h0 (by omega) (by decide) (by decide)
  obtain ⟨hI, hR, hU, hT, hF, hN, hK, hE6⟩ := hG
  have hE1 := hT.1
  have hE2 := hT.2
  obtain ⟨v1, G1, q1, y1, rfl, i1, j1, -, e1, f1⟩ := ct_132nx G hI  
  replace e1 := e1 _ rfl
  have g1 : ∀ b, 171 ≤ b → b < 203 → pj_get G1 b = pj_get G b := fun b h1 h2 => j1.2.1.1 b (pj_nc h1 h2 rfl)
  have hR1 : pj_RI G1 := pj_RI_g g1 hR
  have hU1 : (pj_fi G1 171 30).toInt ≤ 15 := pj_UN_g g1 hU
  obtain ⟨v2, G2, q2, y2, rfl, i2, j2, -, e2, f2⟩ := ct_231tx G1 i1  hR1 hU1
  have a2 : (pj_fi G1 171 16).toInt = (pj_fi G 171 16).toInt := by rw [pj_fi_g (g1 171 (by decide) (by decide))]
  have a3 : (pj_fi G2 2 1).toInt = (pj_fi G1 2 1).toInt := by rw [show pj_fi G2 2 1 = pj_fi G1 2 1 from j2.1 (2, 1) (by decide)]
  refine ⟨G2, 0, 0, ⟨i2, (pj_RI_k hR1 j2 rfl), (by omega), ⟨by omega, fun j hj => absurd hj (by omega)⟩, mr_FR (mr_FX (mr_FG (mr_FP hF j1 rfl e1.2) g1) j2 rfl rfl) j2 rfl, mr_Nk hN ((j2.1 (171, 7) (by decide)).trans (mr_gi (g1 171 (by decide) (by decide)))), mr_KR (mr_KX (mr_KG (mr_KP hK j1 rfl (e1.2 hF.2.1).2.1 (e1.2 hF.2.1).2.2) g1) j2 rfl rfl) j2 rfl, mr_EC (by have z := (mr_e15 (by omega) hI i1 (mr_TR hT g1) (mr_FG hF g1) hR1 hU1 (mr_EG hE6 hI g1)).2; rw [← f1] at z; dsimp only at z; rw [← f2] at z; exact z) i1 j2 rfl⟩, by decide, by decide, fun r hr => ?_⟩
  refine pj_R_tz (M' := pj_cs15) rfl pj_cs15_s (G, 685, [(4, .int v4), (3, .ref 203), (2, .ref 171), (1, .ref 1), (0, .ref 0)], [.ref 1], mc, ms) 685 2 (fun _ => rfl) ?_
  refine pj_R_ca pj_lz_mon (vs := [.ref 1]) (S2 := [.int y1]) (pj_cs15_s _ _ rfl) (fun _ => rfl) ⟨Nat.le_of_ble_eq_true rfl, Nat.le_of_ble_eq_true rfl, pj_T_rcv hI rfl⟩ ⟨rfl, rfl, rfl⟩ (pj_E_lz (by decide) (by decide) q1) ?_
  show pj_R _ _ _ _ (G1, 688, [(4, .int v4), (3, .ref 203), (2, .ref 171), (1, .ref 1), (0, .ref 0)], [.int y1], mc, ms) _
  refine pj_R_tz (M' := pj_cs15) rfl pj_cs15_s (G1, 690, [(4, .int v4), (3, .ref 203), (2, .ref 171), (1, .ref 1), (0, .ref 0)], [.ref 171], mc, ms) 690 3 (fun _ => rfl) ?_
  refine pj_R_ca pj_lz_mon (vs := [.ref 171]) (S2 := [.int y2]) (pj_cs15_s _ _ rfl) (fun _ => rfl) ⟨Nat.le_of_ble_eq_true rfl, Nat.le_of_ble_eq_true rfl, pj_T_rcv i1 rfl⟩ ⟨rfl, rfl, rfl⟩ (pj_E_lz (by decide) (by decide) q2) ?_
  show pj_R _ _ _ _ (G2, 693, [(4, .int v4), (3, .ref 203), (2, .ref 171), (1, .ref 1), (0, .ref 0)], [.int y2], mc, ms) _
  refine pj_R_tz (M' := pj_cs15) rfl pj_cs15_s (G2, 1484, [(4, .int v4), (3, .ref 203), (2, .ref 171), (1, .ref 1), (0, .ref 0)], [], mc, ms) 1484 3 (fun _ => rfl) ?_
  exact hr
def pj_cs16 : pj_M := (pj_law.1, pj_law.2.1, 8, some .boolean, pj_law.2.2.2.2.1, [(697, .aload_n 1, 1, [], 0), (698, .invokevirtual 97, 3, [0, 1, 133, 11, 907], 0), (701, .pop, 1, [], 0), (702, .aload_n 2, 1, [], 0), (703, .invokevirtual 100, 3, [0, 1, 217, 12, 1707], 0), (706, .pop, 1, [], 0), (707, .goto 777, 3, [1484], 0)])
set_option maxRecDepth 100000 in
theorem pj_cs16_ok : pj_cs16.2.2.2.2.2.all (fun q => decide (pj_find pj_law.2.2.2.2.2 q.1 = some q.2)) = true := by decide +kernel
theorem pj_cs16_s : ∀ pc q, pj_find pj_cs16.2.2.2.2.2 pc = some q → pj_find pj_law.2.2.2.2.2 pc = some q := fun pc q hq => of_decide_eq_true (List.all_eq_true.mp pj_cs16_ok (pc, q) (pj_find_s hq))
set_option maxRecDepth 100000 in
set_option maxHeartbeats 8000000 in
theorem lw_16 {k : Nat} {xs : Nat → Int32} (hk : k ≤ 2560) (G : pj_G) (v4 : Int32) (hG : pj_LI v4.toInt G) (h0 : 0 ≤ v4.toInt) (h5 : v4.toInt + 5 ≤ k) (mc ms : Nat) : ∃ (G' : pj_G) (dc ds : Nat), pj_LI (v4.toInt + 5) G' ∧ dc ≤ 1 ∧ ds ≤ 6 ∧ ∀ r, pj_R pj_lz (k + 1) xs pj_law (G', 1484, [(4, .int v4), (3, .ref 203), (2, .ref 171), (1, .ref 1), (0, .ref 0)], [], mc + dc, ms + ds) r → pj_R pj_lz (k + 1) xs pj_law (G, 697, [(4, .int v4), (3, .ref 203), (2, .ref 171), (1, .ref 1), (0, .ref 0)], [], mc, ms) r := by
  have ix1 : (v4 + Int32.ofInt 1).toInt = v4.toInt + 1 := pj_ix5 (by decide) h0 (by omega) (by decide) (by decide)
  have ix2 : (v4 + Int32.ofInt 2).toInt = v4.toInt + 2 := pj_ix5 (by decide) h0 (by omega) (by decide) (by decide)
  have ix3 : (v4 + Int32.ofInt 3).toInt = v4.toInt + 3 := pj_ix5 (by decide) h0 (by omega) (by decide) (by decide)
  have ix4 : (v4 + Int32.ofInt 4).toInt = v4.toInt + 4 := pj_ix5 (by decide) h0 (by omega) (by decide) (by decide)
  obtain ⟨hI, hR, hU, hT, hF, hN, hK, hE6⟩ := hG
  have hE1 := hT.1
  have hE2 := hT.2
  obtain ⟨v1, G1, q1, y1, rfl, i1, j1, -, e1, f1⟩ := ct_133nx G hI  
  replace e1 := e1 _ rfl
  have g1 : ∀ b, 171 ≤ b → b < 203 → pj_get G1 b = pj_get G b := fun b h1 h2 => j1.2.1.1 b (pj_nc h1 h2 rfl)
  have hR1 : pj_RI G1 := pj_RI_g g1 hR
  have hU1 : (pj_fi G1 171 30).toInt ≤ 15 := pj_UN_g g1 hU
  obtain ⟨v2, G2, q2, y2, rfl, i2, j2, -, e2, f2⟩ := ct_217x G1 i1  hU1
  have a1 : (pj_fi G1 2 1).toInt = (pj_fi G 2 1).toInt := by rw [show pj_fi G1 2 1 = pj_fi G 2 1 from j1.1 (2, 1) (by decide)]
  have a2 : (pj_fi G1 171 16).toInt = (pj_fi G 171 16).toInt := by rw [pj_fi_g (g1 171 (by decide) (by decide))]
  have a3 : (pj_fi G2 2 1).toInt = (pj_fi G1 2 1).toInt := by rw [show pj_fi G2 2 1 = pj_fi G1 2 1 from j2.1 (2, 1) (by decide)]
  have a4 : (pj_fi G2 171 16).toInt = (pj_fi G1 171 16).toInt := by rw [show pj_fi G2 171 16 = pj_fi G1 171 16 from j2.1 (171, 16) (by decide)]
  refine ⟨G2, 0, 0, ⟨i2, (pj_RI_k hR1 j2 rfl), (by omega), ⟨by omega, fun j hj => by rw [j2.2.2 3 (by decide) j, j2.2.2 180 (by decide) j, j1.2.2 3 (by decide) j, j1.2.2 180 (by decide) j]; exact hE2 j (by omega)⟩, mr_FR (mr_FX (mr_FG (mr_FP hF j1 rfl e1) g1) j2 rfl rfl) j2 rfl, mr_Nk hN ((j2.1 (171, 7) (by decide)).trans (mr_gi (g1 171 (by decide) (by decide)))), mr_KR (mr_KX (mr_KG (mr_KP hK j1 rfl (e1 hF.2.1).2.1 (e1 hF.2.1).2.2) g1) j2 rfl rfl) j2 rfl, mr_EC (by have z := (mr_e16 hI i1 (mr_FG hF g1) hU1 (mr_EG hE6 hI g1)).2; rw [← f1] at z; dsimp only at z; rw [← f2] at z; exact z) i1 j2 rfl⟩, by decide, by decide, fun r hr => ?_⟩
  refine pj_R_tz (M' := pj_cs16) rfl pj_cs16_s (G, 698, [(4, .int v4), (3, .ref 203), (2, .ref 171), (1, .ref 1), (0, .ref 0)], [.ref 1], mc, ms) 698 2 (fun _ => rfl) ?_
  refine pj_R_ca pj_lz_mon (vs := [.ref 1]) (S2 := [.int y1]) (pj_cs16_s _ _ rfl) (fun _ => rfl) ⟨Nat.le_of_ble_eq_true rfl, Nat.le_of_ble_eq_true rfl, pj_T_rcv hI rfl⟩ ⟨rfl, rfl, rfl⟩ (pj_E_lz (by decide) (by decide) q1) ?_
  show pj_R _ _ _ _ (G1, 701, [(4, .int v4), (3, .ref 203), (2, .ref 171), (1, .ref 1), (0, .ref 0)], [.int y1], mc, ms) _
  refine pj_R_tz (M' := pj_cs16) rfl pj_cs16_s (G1, 703, [(4, .int v4), (3, .ref 203), (2, .ref 171), (1, .ref 1), (0, .ref 0)], [.ref 171], mc, ms) 703 3 (fun _ => rfl) ?_
  refine pj_R_ca pj_lz_mon (vs := [.ref 171]) (S2 := [.int y2]) (pj_cs16_s _ _ rfl) (fun _ => rfl) ⟨Nat.le_of_ble_eq_true rfl, Nat.le_of_ble_eq_true rfl, pj_T_rcv i1 rfl⟩ ⟨rfl, rfl, rfl⟩ (pj_E_lz (by decide) (by decide) q2) ?_
  show pj_R _ _ _ _ (G2, 706, [(4, .int v4), (3, .ref 203), (2, .ref 171), (1, .ref 1), (0, .ref 0)], [.int y2], mc, ms) _
  refine pj_R_tz (M' := pj_cs16) rfl pj_cs16_s (G2, 1484, [(4, .int v4), (3, .ref 203), (2, .ref 171), (1, .ref 1), (0, .ref 0)], [], mc, ms) 1484 3 (fun _ => rfl) ?_
  exact hr
def pj_cs17 : pj_M := (pj_law.1, pj_law.2.1, 8, some .boolean, pj_law.2.2.2.2.1, [(710, .aload_n 1, 1, [], 0), (711, .aload_n 0, 1, [], 0), (712, .iload 4, 2, [], 0), (714, .iconst 1, 1, [], 0), (715, .iadd, 1, [], 0), (716, .iaload, 1, [], 0), (717, .aload_n 0, 1, [], 0), (718, .iload 4, 2, [], 0), (720, .iconst 2, 1, [], 0), (721, .iadd, 1, [], 0), (722, .iaload, 1, [], 0), (723, .invokevirtual 101, 3, [0, 3, 134, 11, 916], 0), (726, .pop, 1, [], 0), (727, .aload_n 2, 1, [], 0), (728, .aload_n 0, 1, [], 0), (729, .iload 4, 2, [], 0), (731, .iconst 1, 1, [], 0), (732, .iadd, 1, [], 0), (733, .iaload, 1, [], 0), (734, .aload_n 0, 1, [], 0), (735, .iload 4, 2, [], 0), (737, .iconst 2, 1, [], 0), (738, .iadd, 1, [], 0), (739, .iaload, 1, [], 0), (740, .invokevirtual 104, 3, [0, 3, 233, 12, 1809], 0), (743, .pop, 1, [], 0), (744, .goto 740, 3, [1484], 0)])
set_option maxRecDepth 100000 in
theorem pj_cs17_ok : pj_cs17.2.2.2.2.2.all (fun q => decide (pj_find pj_law.2.2.2.2.2 q.1 = some q.2)) = true := by decide +kernel
theorem pj_cs17_s : ∀ pc q, pj_find pj_cs17.2.2.2.2.2 pc = some q → pj_find pj_law.2.2.2.2.2 pc = some q := fun pc q hq => of_decide_eq_true (List.all_eq_true.mp pj_cs17_ok (pc, q) (pj_find_s hq))
set_option maxRecDepth 100000 in
set_option maxHeartbeats 8000000 in
theorem lw_17 {k : Nat} {xs : Nat → Int32} (hk : k ≤ 2560) (G : pj_G) (v4 : Int32) (hG : pj_LI v4.toInt G) (h0 : 0 ≤ v4.toInt) (h5 : v4.toInt + 5 ≤ k) (mc ms : Nat) : ∃ (G' : pj_G) (dc ds : Nat), pj_LI (v4.toInt + 5) G' ∧ dc ≤ 1 ∧ ds ≤ 6 ∧ ∀ r, pj_R pj_lz (k + 1) xs pj_law (G', 1484, [(4, .int v4), (3, .ref 203), (2, .ref 171), (1, .ref 1), (0, .ref 0)], [], mc + dc, ms + ds) r → pj_R pj_lz (k + 1) xs pj_law (G, 710, [(4, .int v4), (3, .ref 203), (2, .ref 171), (1, .ref 1), (0, .ref 0)], [], mc, ms) r := by
  have ix1 : (v4 + Int32.ofInt 1).toInt = v4.toInt + 1 := pj_ix5 (by decide) h0 (by omega) (by decide) (by decide)
  have ix2 : (v4 + Int32.ofInt 2).toInt = v4.toInt + 2 := pj_ix5 (by decide) h0 (by omega) (by decide) (by decide)
  have ix3 : (v4 + Int32.ofInt 3).toInt = v4.toInt + 3 := pj_ix5 (by decide) h0 (by omega) (by decide) (by decide)
  have ix4 : (v4 + Int32.ofInt 4).toInt = v4.toInt + 4 := pj_ix5 (by decide) h0 (by omega) (by decide) (by decide)
  obtain ⟨hI, hR, hU, hT, hF, hN, hK, hE6⟩ := hG
  have hE1 := hT.1
  have hE2 := hT.2
  obtain ⟨v1, G1, q1, y1, rfl, i1, j1, -⟩ := ct_134 G hI (xs (v4 + Int32.ofInt 1).toNatClampNeg) (xs (v4 + Int32.ofInt 2).toNatClampNeg) 
  have g1 : ∀ b, 171 ≤ b → b < 203 → pj_get G1 b = pj_get G b := fun b h1 h2 => j1.2.1.1 b (pj_nc h1 h2 rfl)
  have hR1 : pj_RI G1 := pj_RI_g g1 hR
  have hU1 : (pj_fi G1 171 30).toInt ≤ 15 := pj_UN_g g1 hU
  obtain ⟨v2, G2, q2, y2, rfl, i2, j2, -⟩ := ct_233 G1 i1 (xs (v4 + Int32.ofInt 1).toNatClampNeg) (xs (v4 + Int32.ofInt 2).toNatClampNeg) hR1
  have a1 : (pj_fi G1 2 1).toInt = (pj_fi G 2 1).toInt := by rw [show pj_fi G1 2 1 = pj_fi G 2 1 from j1.1 (2, 1) (by decide)]
  have a2 : (pj_fi G1 171 16).toInt = (pj_fi G 171 16).toInt := by rw [pj_fi_g (g1 171 (by decide) (by decide))]
  have a3 : (pj_fi G2 2 1).toInt = (pj_fi G1 2 1).toInt := by rw [show pj_fi G2 2 1 = pj_fi G1 2 1 from j2.1 (2, 1) (by decide)]
  have a4 : (pj_fi G2 171 16).toInt = (pj_fi G1 171 16).toInt := by rw [show pj_fi G2 171 16 = pj_fi G1 171 16 from j2.1 (171, 16) (by decide)]
  refine ⟨G2, 0, 0, ⟨i2, (pj_RI_k hR1 j2 rfl), (by have q9 : pj_fi G2 171 30 = pj_fi G1 171 30 := j2.1 (171, 30) (by decide); rw [q9]; exact hU1), ⟨by omega, fun j hj => by rw [j2.2.2 3 (by decide) j, j2.2.2 180 (by decide) j, j1.2.2 3 (by decide) j, j1.2.2 180 (by decide) j]; exact hE2 j (by omega)⟩, mr_FR (mr_FX (mr_FG (mr_FC hF j1 rfl rfl) g1) j2 rfl rfl) j2 rfl, mr_Nk hN ((j2.1 (171, 7) (by decide)).trans (mr_gi (g1 171 (by decide) (by decide)))), mr_KR (mr_KX (mr_KG (mr_KC hK j1 rfl rfl) g1) j2 rfl rfl) j2 rfl, mr_En (mr_ER (mr_EC (mr_EG (mr_EC hE6 hI j1 rfl) i1 g1) i1 j2 rfl) i2 j2 rfl)⟩, by decide, by decide, fun r hr => ?_⟩
  refine pj_R_tz (M' := pj_cs17) rfl pj_cs17_s (G, 716, [(4, .int v4), (3, .ref 203), (2, .ref 171), (1, .ref 1), (0, .ref 0)], [.int (v4 + (Int32.ofInt 1)), .ref 0, .ref 1], mc, ms) 716 6 (fun _ => rfl) ?_
  refine pj_R_sl (pj_cs17_s _ _ rfl) (by omega) (by omega) ?_
  show pj_R _ _ _ _ (G, 717, [(4, .int v4), (3, .ref 203), (2, .ref 171), (1, .ref 1), (0, .ref 0)], [.int (xs (v4 + (Int32.ofInt 1)).toNatClampNeg), .ref 1], mc, ms) _
  refine pj_R_tz (M' := pj_cs17) rfl pj_cs17_s (G, 722, [(4, .int v4), (3, .ref 203), (2, .ref 171), (1, .ref 1), (0, .ref 0)], [.int (v4 + (Int32.ofInt 2)), .ref 0, .int (xs (v4 + (Int32.ofInt 1)).toNatClampNeg), .ref 1], mc, ms) 722 5 (fun _ => rfl) ?_
  refine pj_R_sl (pj_cs17_s _ _ rfl) (by omega) (by omega) ?_
  show pj_R _ _ _ _ (G, 723, [(4, .int v4), (3, .ref 203), (2, .ref 171), (1, .ref 1), (0, .ref 0)], [.int (xs (v4 + (Int32.ofInt 2)).toNatClampNeg), .int (xs (v4 + (Int32.ofInt 1)).toNatClampNeg), .ref 1], mc, ms) _
  refine pj_R_ca pj_lz_mon (vs := [.ref 1, .int (xs (v4 + (Int32.ofInt 1)).toNatClampNeg), .int (xs (v4 + (Int32.ofInt 2)).toNatClampNeg)]) (S2 := [.int y1]) (pj_cs17_s _ _ rfl) (fun _ => rfl) ⟨Nat.le_of_ble_eq_true rfl, Nat.le_of_ble_eq_true rfl, pj_T_rcv hI rfl⟩ ⟨rfl, rfl, rfl⟩ (pj_E_lz (by decide) (by decide) q1) ?_
  show pj_R _ _ _ _ (G1, 726, [(4, .int v4), (3, .ref 203), (2, .ref 171), (1, .ref 1), (0, .ref 0)], [.int y1], mc, ms) _
  refine pj_R_tz (M' := pj_cs17) rfl pj_cs17_s (G1, 733, [(4, .int v4), (3, .ref 203), (2, .ref 171), (1, .ref 1), (0, .ref 0)], [.int (v4 + (Int32.ofInt 1)), .ref 0, .ref 171], mc, ms) 733 7 (fun _ => rfl) ?_
  refine pj_R_sl (pj_cs17_s _ _ rfl) (by omega) (by omega) ?_
  show pj_R _ _ _ _ (G1, 734, [(4, .int v4), (3, .ref 203), (2, .ref 171), (1, .ref 1), (0, .ref 0)], [.int (xs (v4 + (Int32.ofInt 1)).toNatClampNeg), .ref 171], mc, ms) _
  refine pj_R_tz (M' := pj_cs17) rfl pj_cs17_s (G1, 739, [(4, .int v4), (3, .ref 203), (2, .ref 171), (1, .ref 1), (0, .ref 0)], [.int (v4 + (Int32.ofInt 2)), .ref 0, .int (xs (v4 + (Int32.ofInt 1)).toNatClampNeg), .ref 171], mc, ms) 739 5 (fun _ => rfl) ?_
  refine pj_R_sl (pj_cs17_s _ _ rfl) (by omega) (by omega) ?_
  show pj_R _ _ _ _ (G1, 740, [(4, .int v4), (3, .ref 203), (2, .ref 171), (1, .ref 1), (0, .ref 0)], [.int (xs (v4 + (Int32.ofInt 2)).toNatClampNeg), .int (xs (v4 + (Int32.ofInt 1)).toNatClampNeg), .ref 171], mc, ms) _
  refine pj_R_ca pj_lz_mon (vs := [.ref 171, .int (xs (v4 + (Int32.ofInt 1)).toNatClampNeg), .int (xs (v4 + (Int32.ofInt 2)).toNatClampNeg)]) (S2 := [.int y2]) (pj_cs17_s _ _ rfl) (fun _ => rfl) ⟨Nat.le_of_ble_eq_true rfl, Nat.le_of_ble_eq_true rfl, pj_T_rcv i1 rfl⟩ ⟨rfl, rfl, rfl⟩ (pj_E_lz (by decide) (by decide) q2) ?_
  show pj_R _ _ _ _ (G2, 743, [(4, .int v4), (3, .ref 203), (2, .ref 171), (1, .ref 1), (0, .ref 0)], [.int y2], mc, ms) _
  refine pj_R_tz (M' := pj_cs17) rfl pj_cs17_s (G2, 1484, [(4, .int v4), (3, .ref 203), (2, .ref 171), (1, .ref 1), (0, .ref 0)], [], mc, ms) 1484 3 (fun _ => rfl) ?_
  exact hr
def pj_cs18 : pj_M := (pj_law.1, pj_law.2.1, 8, some .boolean, pj_law.2.2.2.2.1, [(747, .aload_n 1, 1, [], 0), (748, .aload_n 0, 1, [], 0), (749, .iload 4, 2, [], 0), (751, .iconst 1, 1, [], 0), (752, .iadd, 1, [], 0), (753, .iaload, 1, [], 0), (754, .invokevirtual 105, 3, [0, 2, 135, 11, 951], 0), (757, .pop, 1, [], 0), (758, .aload_n 2, 1, [], 0), (759, .aload_n 0, 1, [], 0), (760, .iload 4, 2, [], 0), (762, .iconst 1, 1, [], 0), (763, .iadd, 1, [], 0), (764, .iaload, 1, [], 0), (765, .invokevirtual 108, 3, [0, 2, 234, 12, 1821], 0), (768, .pop, 1, [], 0), (769, .goto 715, 3, [1484], 0)])
set_option maxRecDepth 100000 in
theorem pj_cs18_ok : pj_cs18.2.2.2.2.2.all (fun q => decide (pj_find pj_law.2.2.2.2.2 q.1 = some q.2)) = true := by decide +kernel
theorem pj_cs18_s : ∀ pc q, pj_find pj_cs18.2.2.2.2.2 pc = some q → pj_find pj_law.2.2.2.2.2 pc = some q := fun pc q hq => of_decide_eq_true (List.all_eq_true.mp pj_cs18_ok (pc, q) (pj_find_s hq))
set_option maxRecDepth 100000 in
set_option maxHeartbeats 8000000 in
theorem lw_18 {k : Nat} {xs : Nat → Int32} (hk : k ≤ 2560) (G : pj_G) (v4 : Int32) (hG : pj_LI v4.toInt G) (h0 : 0 ≤ v4.toInt) (h5 : v4.toInt + 5 ≤ k) (mc ms : Nat) : ∃ (G' : pj_G) (dc ds : Nat), pj_LI (v4.toInt + 5) G' ∧ dc ≤ 1 ∧ ds ≤ 6 ∧ ∀ r, pj_R pj_lz (k + 1) xs pj_law (G', 1484, [(4, .int v4), (3, .ref 203), (2, .ref 171), (1, .ref 1), (0, .ref 0)], [], mc + dc, ms + ds) r → pj_R pj_lz (k + 1) xs pj_law (G, 747, [(4, .int v4), (3, .ref 203), (2, .ref 171), (1, .ref 1), (0, .ref 0)], [], mc, ms) r := by
  have ix1 : (v4 + Int32.ofInt 1).toInt = v4.toInt + 1 := pj_ix5 (by decide) h0 (by omega) (by decide) (by decide)
  have ix2 : (v4 + Int32.ofInt 2).toInt = v4.toInt + 2 := pj_ix5 (by decide) h0 (by omega) (by decide) (by decide)
  have ix3 : (v4 + Int32.ofInt 3).toInt = v4.toInt + 3 := pj_ix5 (by decide) h0 (by omega) (by decide) (by decide)
  have ix4 : (v4 + Int32.ofInt 4).toInt = v4.toInt + 4 := pj_ix5 (by decide) h0 (by omega) (by decide) (by decide)
  obtain ⟨hI, hR, hU, hT, hF, hN, hK, hE6⟩ := hG
  have hE1 := hT.1
  have hE2 := hT.2
  obtain ⟨v1, G1, q1, y1, rfl, i1, j1, -⟩ := ct_135 G hI (xs (v4 + Int32.ofInt 1).toNatClampNeg) 
  have g1 : ∀ b, 171 ≤ b → b < 203 → pj_get G1 b = pj_get G b := fun b h1 h2 => j1.2.1.1 b (pj_nc h1 h2 rfl)
  have hR1 : pj_RI G1 := pj_RI_g g1 hR
  have hU1 : (pj_fi G1 171 30).toInt ≤ 15 := pj_UN_g g1 hU
  obtain ⟨v2, G2, q2, y2, rfl, i2, j2, -⟩ := ct_234 G1 i1 (xs (v4 + Int32.ofInt 1).toNatClampNeg) 
  have a1 : (pj_fi G1 2 1).toInt = (pj_fi G 2 1).toInt := by rw [show pj_fi G1 2 1 = pj_fi G 2 1 from j1.1 (2, 1) (by decide)]
  have a2 : (pj_fi G1 171 16).toInt = (pj_fi G 171 16).toInt := by rw [pj_fi_g (g1 171 (by decide) (by decide))]
  have a3 : (pj_fi G2 2 1).toInt = (pj_fi G1 2 1).toInt := by rw [show pj_fi G2 2 1 = pj_fi G1 2 1 from j2.1 (2, 1) (by decide)]
  have a4 : (pj_fi G2 171 16).toInt = (pj_fi G1 171 16).toInt := by rw [show pj_fi G2 171 16 = pj_fi G1 171 16 from j2.1 (171, 16) (by decide)]
  refine ⟨G2, 0, 0, ⟨i2, (pj_RI_k hR1 j2 rfl), (by have q9 : pj_fi G2 171 30 = pj_fi G1 171 30 := j2.1 (171, 30) (by decide); rw [q9]; exact hU1), ⟨by omega, fun j hj => by rw [j2.2.2 3 (by decide) j, j2.2.2 180 (by decide) j, j1.2.2 3 (by decide) j, j1.2.2 180 (by decide) j]; exact hE2 j (by omega)⟩, mr_FR (mr_FX (mr_FG (mr_FC hF j1 rfl rfl) g1) j2 rfl rfl) j2 rfl, mr_Nk hN ((j2.1 (171, 7) (by decide)).trans (mr_gi (g1 171 (by decide) (by decide)))), mr_KR (mr_KX (mr_KG (mr_KC hK j1 rfl rfl) g1) j2 rfl rfl) j2 rfl, mr_En (mr_ER (mr_EC (mr_EG (mr_EC hE6 hI j1 rfl) i1 g1) i1 j2 rfl) i2 j2 rfl)⟩, by decide, by decide, fun r hr => ?_⟩
  refine pj_R_tz (M' := pj_cs18) rfl pj_cs18_s (G, 753, [(4, .int v4), (3, .ref 203), (2, .ref 171), (1, .ref 1), (0, .ref 0)], [.int (v4 + (Int32.ofInt 1)), .ref 0, .ref 1], mc, ms) 753 6 (fun _ => rfl) ?_
  refine pj_R_sl (pj_cs18_s _ _ rfl) (by omega) (by omega) ?_
  show pj_R _ _ _ _ (G, 754, [(4, .int v4), (3, .ref 203), (2, .ref 171), (1, .ref 1), (0, .ref 0)], [.int (xs (v4 + (Int32.ofInt 1)).toNatClampNeg), .ref 1], mc, ms) _
  refine pj_R_ca pj_lz_mon (vs := [.ref 1, .int (xs (v4 + (Int32.ofInt 1)).toNatClampNeg)]) (S2 := [.int y1]) (pj_cs18_s _ _ rfl) (fun _ => rfl) ⟨Nat.le_of_ble_eq_true rfl, Nat.le_of_ble_eq_true rfl, pj_T_rcv hI rfl⟩ ⟨rfl, rfl, rfl⟩ (pj_E_lz (by decide) (by decide) q1) ?_
  show pj_R _ _ _ _ (G1, 757, [(4, .int v4), (3, .ref 203), (2, .ref 171), (1, .ref 1), (0, .ref 0)], [.int y1], mc, ms) _
  refine pj_R_tz (M' := pj_cs18) rfl pj_cs18_s (G1, 764, [(4, .int v4), (3, .ref 203), (2, .ref 171), (1, .ref 1), (0, .ref 0)], [.int (v4 + (Int32.ofInt 1)), .ref 0, .ref 171], mc, ms) 764 7 (fun _ => rfl) ?_
  refine pj_R_sl (pj_cs18_s _ _ rfl) (by omega) (by omega) ?_
  show pj_R _ _ _ _ (G1, 765, [(4, .int v4), (3, .ref 203), (2, .ref 171), (1, .ref 1), (0, .ref 0)], [.int (xs (v4 + (Int32.ofInt 1)).toNatClampNeg), .ref 171], mc, ms) _
  refine pj_R_ca pj_lz_mon (vs := [.ref 171, .int (xs (v4 + (Int32.ofInt 1)).toNatClampNeg)]) (S2 := [.int y2]) (pj_cs18_s _ _ rfl) (fun _ => rfl) ⟨Nat.le_of_ble_eq_true rfl, Nat.le_of_ble_eq_true rfl, pj_T_rcv i1 rfl⟩ ⟨rfl, rfl, rfl⟩ (pj_E_lz (by decide) (by decide) q2) ?_
  show pj_R _ _ _ _ (G2, 768, [(4, .int v4), (3, .ref 203), (2, .ref 171), (1, .ref 1), (0, .ref 0)], [.int y2], mc, ms) _
  refine pj_R_tz (M' := pj_cs18) rfl pj_cs18_s (G2, 1484, [(4, .int v4), (3, .ref 203), (2, .ref 171), (1, .ref 1), (0, .ref 0)], [], mc, ms) 1484 3 (fun _ => rfl) ?_
  exact hr
def pj_cs19 : pj_M := (pj_law.1, pj_law.2.1, 8, some .boolean, pj_law.2.2.2.2.1, [(772, .aload_n 1, 1, [], 0), (773, .aload_n 0, 1, [], 0), (774, .iload 4, 2, [], 0), (776, .iconst 1, 1, [], 0), (777, .iadd, 1, [], 0), (778, .iaload, 1, [], 0), (779, .aload_n 0, 1, [], 0), (780, .iload 4, 2, [], 0), (782, .iconst 2, 1, [], 0), (783, .iadd, 1, [], 0), (784, .iaload, 1, [], 0), (785, .invokevirtual 109, 3, [0, 3, 136, 11, 974], 0), (788, .pop, 1, [], 0), (789, .aload_n 2, 1, [], 0), (790, .aload_n 0, 1, [], 0), (791, .iload 4, 2, [], 0), (793, .iconst 1, 1, [], 0), (794, .iadd, 1, [], 0), (795, .iaload, 1, [], 0), (796, .aload_n 0, 1, [], 0), (797, .iload 4, 2, [], 0), (799, .iconst 2, 1, [], 0), (800, .iadd, 1, [], 0), (801, .iaload, 1, [], 0), (802, .invokevirtual 112, 3, [0, 3, 235, 12, 1838], 0), (805, .pop, 1, [], 0), (806, .goto 678, 3, [1484], 0)])
set_option maxRecDepth 100000 in
theorem pj_cs19_ok : pj_cs19.2.2.2.2.2.all (fun q => decide (pj_find pj_law.2.2.2.2.2 q.1 = some q.2)) = true := by decide +kernel
theorem pj_cs19_s : ∀ pc q, pj_find pj_cs19.2.2.2.2.2 pc = some q → pj_find pj_law.2.2.2.2.2 pc = some q := fun pc q hq => of_decide_eq_true (List.all_eq_true.mp pj_cs19_ok (pc, q) (pj_find_s hq))
set_option maxRecDepth 100000 in
set_option maxHeartbeats 8000000 in
theorem lw_19 {k : Nat} {xs : Nat → Int32} (hk : k ≤ 2560) (G : pj_G) (v4 : Int32) (hG : pj_LI v4.toInt G) (h0 : 0 ≤ v4.toInt) (h5 : v4.toInt + 5 ≤ k) (mc ms : Nat) : ∃ (G' : pj_G) (dc ds : Nat), pj_LI (v4.toInt + 5) G' ∧ dc ≤ 1 ∧ ds ≤ 6 ∧ ∀ r, pj_R pj_lz (k + 1) xs pj_law (G', 1484, [(4, .int v4), (3, .ref 203), (2, .ref 171), (1, .ref 1), (0, .ref 0)], [], mc + dc, ms + ds) r → pj_R pj_lz (k + 1) xs pj_law (G, 772, [(4, .int v4), (3, .ref 203), (2, .ref 171), (1, .ref 1), (0, .ref 0)], [], mc, ms) r := by
  have ix1 : (v4 + Int32.ofInt 1).toInt = v4.toInt + 1 := pj_ix5 (by decide) h0 (by omega) (by decide) (by decide)
  have ix2 : (v4 + Int32.ofInt 2).toInt = v4.toInt + 2 := pj_ix5 (by decide) h0 (by omega) (by decide) (by decide)
  have ix3 : (v4 + Int32.ofInt 3).toInt = v4.toInt + 3 := pj_ix5 (by decide) h0 (by omega) (by decide) (by decide)
  have ix4 : (v4 + Int32.ofInt 4).toInt = v4.toInt + 4 := pj_ix5 (by decide) h0 (by omega) (by decide) (by decide)
  obtain ⟨hI, hR, hU, hT, hF, hN, hK, hE6⟩ := hG
  have hE1 := hT.1
  have hE2 := hT.2
  obtain ⟨v1, G1, q1, y1, rfl, i1, j1, -⟩ := ct_136 G hI (xs (v4 + Int32.ofInt 1).toNatClampNeg) (xs (v4 + Int32.ofInt 2).toNatClampNeg) 
  have g1 : ∀ b, 171 ≤ b → b < 203 → pj_get G1 b = pj_get G b := fun b h1 h2 => j1.2.1.1 b (pj_nc h1 h2 rfl)
  have hR1 : pj_RI G1 := pj_RI_g g1 hR
  have hU1 : (pj_fi G1 171 30).toInt ≤ 15 := pj_UN_g g1 hU
  obtain ⟨v2, G2, q2, y2, rfl, i2, j2, -⟩ := ct_235 G1 i1 (xs (v4 + Int32.ofInt 1).toNatClampNeg) (xs (v4 + Int32.ofInt 2).toNatClampNeg) 
  have a1 : (pj_fi G1 2 1).toInt = (pj_fi G 2 1).toInt := by rw [show pj_fi G1 2 1 = pj_fi G 2 1 from j1.1 (2, 1) (by decide)]
  have a2 : (pj_fi G1 171 16).toInt = (pj_fi G 171 16).toInt := by rw [pj_fi_g (g1 171 (by decide) (by decide))]
  have a3 : (pj_fi G2 2 1).toInt = (pj_fi G1 2 1).toInt := by rw [show pj_fi G2 2 1 = pj_fi G1 2 1 from j2.1 (2, 1) (by decide)]
  have a4 : (pj_fi G2 171 16).toInt = (pj_fi G1 171 16).toInt := by rw [show pj_fi G2 171 16 = pj_fi G1 171 16 from j2.1 (171, 16) (by decide)]
  refine ⟨G2, 0, 0, ⟨i2, (pj_RI_k hR1 j2 rfl), (by have q9 : pj_fi G2 171 30 = pj_fi G1 171 30 := j2.1 (171, 30) (by decide); rw [q9]; exact hU1), ⟨by omega, fun j hj => by rw [j2.2.2 3 (by decide) j, j2.2.2 180 (by decide) j, j1.2.2 3 (by decide) j, j1.2.2 180 (by decide) j]; exact hE2 j (by omega)⟩, mr_FR (mr_FX (mr_FG (mr_FC hF j1 rfl rfl) g1) j2 rfl rfl) j2 rfl, mr_Nk hN ((j2.1 (171, 7) (by decide)).trans (mr_gi (g1 171 (by decide) (by decide)))), mr_KR (mr_KX (mr_KG (mr_KC hK j1 rfl rfl) g1) j2 rfl rfl) j2 rfl, mr_En (mr_ER (mr_EC (mr_EG (mr_EC hE6 hI j1 rfl) i1 g1) i1 j2 rfl) i2 j2 rfl)⟩, by decide, by decide, fun r hr => ?_⟩
  refine pj_R_tz (M' := pj_cs19) rfl pj_cs19_s (G, 778, [(4, .int v4), (3, .ref 203), (2, .ref 171), (1, .ref 1), (0, .ref 0)], [.int (v4 + (Int32.ofInt 1)), .ref 0, .ref 1], mc, ms) 778 6 (fun _ => rfl) ?_
  refine pj_R_sl (pj_cs19_s _ _ rfl) (by omega) (by omega) ?_
  show pj_R _ _ _ _ (G, 779, [(4, .int v4), (3, .ref 203), (2, .ref 171), (1, .ref 1), (0, .ref 0)], [.int (xs (v4 + (Int32.ofInt 1)).toNatClampNeg), .ref 1], mc, ms) _
  refine pj_R_tz (M' := pj_cs19) rfl pj_cs19_s (G, 784, [(4, .int v4), (3, .ref 203), (2, .ref 171), (1, .ref 1), (0, .ref 0)], [.int (v4 + (Int32.ofInt 2)), .ref 0, .int (xs (v4 + (Int32.ofInt 1)).toNatClampNeg), .ref 1], mc, ms) 784 5 (fun _ => rfl) ?_
  refine pj_R_sl (pj_cs19_s _ _ rfl) (by omega) (by omega) ?_
  show pj_R _ _ _ _ (G, 785, [(4, .int v4), (3, .ref 203), (2, .ref 171), (1, .ref 1), (0, .ref 0)], [.int (xs (v4 + (Int32.ofInt 2)).toNatClampNeg), .int (xs (v4 + (Int32.ofInt 1)).toNatClampNeg), .ref 1], mc, ms) _
  refine pj_R_ca pj_lz_mon (vs := [.ref 1, .int (xs (v4 + (Int32.ofInt 1)).toNatClampNeg), .int (xs (v4 + (Int32.ofInt 2)).toNatClampNeg)]) (S2 := [.int y1]) (pj_cs19_s _ _ rfl) (fun _ => rfl) ⟨Nat.le_of_ble_eq_true rfl, Nat.le_of_ble_eq_true rfl, pj_T_rcv hI rfl⟩ ⟨rfl, rfl, rfl⟩ (pj_E_lz (by decide) (by decide) q1) ?_
  show pj_R _ _ _ _ (G1, 788, [(4, .int v4), (3, .ref 203), (2, .ref 171), (1, .ref 1), (0, .ref 0)], [.int y1], mc, ms) _
  refine pj_R_tz (M' := pj_cs19) rfl pj_cs19_s (G1, 795, [(4, .int v4), (3, .ref 203), (2, .ref 171), (1, .ref 1), (0, .ref 0)], [.int (v4 + (Int32.ofInt 1)), .ref 0, .ref 171], mc, ms) 795 7 (fun _ => rfl) ?_
  refine pj_R_sl (pj_cs19_s _ _ rfl) (by omega) (by omega) ?_
  show pj_R _ _ _ _ (G1, 796, [(4, .int v4), (3, .ref 203), (2, .ref 171), (1, .ref 1), (0, .ref 0)], [.int (xs (v4 + (Int32.ofInt 1)).toNatClampNeg), .ref 171], mc, ms) _
  refine pj_R_tz (M' := pj_cs19) rfl pj_cs19_s (G1, 801, [(4, .int v4), (3, .ref 203), (2, .ref 171), (1, .ref 1), (0, .ref 0)], [.int (v4 + (Int32.ofInt 2)), .ref 0, .int (xs (v4 + (Int32.ofInt 1)).toNatClampNeg), .ref 171], mc, ms) 801 5 (fun _ => rfl) ?_
  refine pj_R_sl (pj_cs19_s _ _ rfl) (by omega) (by omega) ?_
  show pj_R _ _ _ _ (G1, 802, [(4, .int v4), (3, .ref 203), (2, .ref 171), (1, .ref 1), (0, .ref 0)], [.int (xs (v4 + (Int32.ofInt 2)).toNatClampNeg), .int (xs (v4 + (Int32.ofInt 1)).toNatClampNeg), .ref 171], mc, ms) _
  refine pj_R_ca pj_lz_mon (vs := [.ref 171, .int (xs (v4 + (Int32.ofInt 1)).toNatClampNeg), .int (xs (v4 + (Int32.ofInt 2)).toNatClampNeg)]) (S2 := [.int y2]) (pj_cs19_s _ _ rfl) (fun _ => rfl) ⟨Nat.le_of_ble_eq_true rfl, Nat.le_of_ble_eq_true rfl, pj_T_rcv i1 rfl⟩ ⟨rfl, rfl, rfl⟩ (pj_E_lz (by decide) (by decide) q2) ?_
  show pj_R _ _ _ _ (G2, 805, [(4, .int v4), (3, .ref 203), (2, .ref 171), (1, .ref 1), (0, .ref 0)], [.int y2], mc, ms) _
  refine pj_R_tz (M' := pj_cs19) rfl pj_cs19_s (G2, 1484, [(4, .int v4), (3, .ref 203), (2, .ref 171), (1, .ref 1), (0, .ref 0)], [], mc, ms) 1484 3 (fun _ => rfl) ?_
  exact hr
def pj_cs20 : pj_M := (pj_law.1, pj_law.2.1, 8, some .boolean, pj_law.2.2.2.2.1, [(809, .aload_n 1, 1, [], 0), (810, .aload_n 0, 1, [], 0), (811, .iload 4, 2, [], 0), (813, .iconst 1, 1, [], 0), (814, .iadd, 1, [], 0), (815, .iaload, 1, [], 0), (816, .aload_n 0, 1, [], 0), (817, .iload 4, 2, [], 0), (819, .iconst 2, 1, [], 0), (820, .iadd, 1, [], 0), (821, .iaload, 1, [], 0), (822, .invokevirtual 113, 3, [0, 3, 137, 11, 980], 0), (825, .pop, 1, [], 0), (826, .aload_n 2, 1, [], 0), (827, .aload_n 0, 1, [], 0), (828, .iload 4, 2, [], 0), (830, .iconst 1, 1, [], 0), (831, .iadd, 1, [], 0), (832, .iaload, 1, [], 0), (833, .aload_n 0, 1, [], 0), (834, .iload 4, 2, [], 0), (836, .iconst 2, 1, [], 0), (837, .iadd, 1, [], 0), (838, .iaload, 1, [], 0), (839, .invokevirtual 116, 3, [0, 3, 240, 12, 1842], 0), (842, .pop, 1, [], 0), (843, .goto 641, 3, [1484], 0)])
set_option maxRecDepth 100000 in
theorem pj_cs20_ok : pj_cs20.2.2.2.2.2.all (fun q => decide (pj_find pj_law.2.2.2.2.2 q.1 = some q.2)) = true := by decide +kernel
theorem pj_cs20_s : ∀ pc q, pj_find pj_cs20.2.2.2.2.2 pc = some q → pj_find pj_law.2.2.2.2.2 pc = some q := fun pc q hq => of_decide_eq_true (List.all_eq_true.mp pj_cs20_ok (pc, q) (pj_find_s hq))
set_option maxRecDepth 100000 in
set_option maxHeartbeats 8000000 in
theorem lw_20 {k : Nat} {xs : Nat → Int32} (hk : k ≤ 2560) (G : pj_G) (v4 : Int32) (hG : pj_LI v4.toInt G) (h0 : 0 ≤ v4.toInt) (h5 : v4.toInt + 5 ≤ k) (mc ms : Nat) : ∃ (G' : pj_G) (dc ds : Nat), pj_LI (v4.toInt + 5) G' ∧ dc ≤ 1 ∧ ds ≤ 6 ∧ ∀ r, pj_R pj_lz (k + 1) xs pj_law (G', 1484, [(4, .int v4), (3, .ref 203), (2, .ref 171), (1, .ref 1), (0, .ref 0)], [], mc + dc, ms + ds) r → pj_R pj_lz (k + 1) xs pj_law (G, 809, [(4, .int v4), (3, .ref 203), (2, .ref 171), (1, .ref 1), (0, .ref 0)], [], mc, ms) r := by
  have ix1 : (v4 + Int32.ofInt 1).toInt = v4.toInt + 1 := pj_ix5 (by decide) h0 (by omega) (by decide) (by decide)
  have ix2 : (v4 + Int32.ofInt 2).toInt = v4.toInt + 2 := pj_ix5 (by decide) h0 (by omega) (by decide) (by decide)
  have ix3 : (v4 + Int32.ofInt 3).toInt = v4.toInt + 3 := pj_ix5 (by decide) h0 (by omega) (by decide) (by decide)
  have ix4 : (v4 + Int32.ofInt 4).toInt = v4.toInt + 4 := pj_ix5 (by decide) h0 (by omega) (by decide) (by decide)
  obtain ⟨hI, hR, hU, hT, hF, hN, hK, hE6⟩ := hG
  have hE1 := hT.1
  have hE2 := hT.2
  obtain ⟨v1, G1, q1, y1, rfl, i1, j1, -⟩ := ct_137 G hI (xs (v4 + Int32.ofInt 1).toNatClampNeg) (xs (v4 + Int32.ofInt 2).toNatClampNeg) 
  have g1 : ∀ b, 171 ≤ b → b < 203 → pj_get G1 b = pj_get G b := fun b h1 h2 => j1.2.1.1 b (pj_nc h1 h2 rfl)
  have hR1 : pj_RI G1 := pj_RI_g g1 hR
  have hU1 : (pj_fi G1 171 30).toInt ≤ 15 := pj_UN_g g1 hU
  obtain ⟨v2, G2, q2, y2, rfl, i2, j2, -⟩ := ct_240 G1 i1 (xs (v4 + Int32.ofInt 1).toNatClampNeg) (xs (v4 + Int32.ofInt 2).toNatClampNeg) 
  have a1 : (pj_fi G1 2 1).toInt = (pj_fi G 2 1).toInt := by rw [show pj_fi G1 2 1 = pj_fi G 2 1 from j1.1 (2, 1) (by decide)]
  have a2 : (pj_fi G1 171 16).toInt = (pj_fi G 171 16).toInt := by rw [pj_fi_g (g1 171 (by decide) (by decide))]
  have a3 : (pj_fi G2 2 1).toInt = (pj_fi G1 2 1).toInt := by rw [show pj_fi G2 2 1 = pj_fi G1 2 1 from j2.1 (2, 1) (by decide)]
  have a4 : (pj_fi G2 171 16).toInt = (pj_fi G1 171 16).toInt := by rw [show pj_fi G2 171 16 = pj_fi G1 171 16 from j2.1 (171, 16) (by decide)]
  refine ⟨G2, 0, 0, ⟨i2, (pj_RI_k hR1 j2 rfl), (by have q9 : pj_fi G2 171 30 = pj_fi G1 171 30 := j2.1 (171, 30) (by decide); rw [q9]; exact hU1), ⟨by omega, fun j hj => by rw [j2.2.2 3 (by decide) j, j2.2.2 180 (by decide) j, j1.2.2 3 (by decide) j, j1.2.2 180 (by decide) j]; exact hE2 j (by omega)⟩, mr_FR (mr_FX (mr_FG (mr_FC hF j1 rfl rfl) g1) j2 rfl rfl) j2 rfl, mr_Nk hN ((j2.1 (171, 7) (by decide)).trans (mr_gi (g1 171 (by decide) (by decide)))), mr_KR (mr_KX (mr_KG (mr_KC hK j1 rfl rfl) g1) j2 rfl rfl) j2 rfl, mr_En (mr_ER (mr_EC (mr_EG (mr_EC hE6 hI j1 rfl) i1 g1) i1 j2 rfl) i2 j2 rfl)⟩, by decide, by decide, fun r hr => ?_⟩
  refine pj_R_tz (M' := pj_cs20) rfl pj_cs20_s (G, 815, [(4, .int v4), (3, .ref 203), (2, .ref 171), (1, .ref 1), (0, .ref 0)], [.int (v4 + (Int32.ofInt 1)), .ref 0, .ref 1], mc, ms) 815 6 (fun _ => rfl) ?_
  refine pj_R_sl (pj_cs20_s _ _ rfl) (by omega) (by omega) ?_
  show pj_R _ _ _ _ (G, 816, [(4, .int v4), (3, .ref 203), (2, .ref 171), (1, .ref 1), (0, .ref 0)], [.int (xs (v4 + (Int32.ofInt 1)).toNatClampNeg), .ref 1], mc, ms) _
  refine pj_R_tz (M' := pj_cs20) rfl pj_cs20_s (G, 821, [(4, .int v4), (3, .ref 203), (2, .ref 171), (1, .ref 1), (0, .ref 0)], [.int (v4 + (Int32.ofInt 2)), .ref 0, .int (xs (v4 + (Int32.ofInt 1)).toNatClampNeg), .ref 1], mc, ms) 821 5 (fun _ => rfl) ?_
  refine pj_R_sl (pj_cs20_s _ _ rfl) (by omega) (by omega) ?_
  show pj_R _ _ _ _ (G, 822, [(4, .int v4), (3, .ref 203), (2, .ref 171), (1, .ref 1), (0, .ref 0)], [.int (xs (v4 + (Int32.ofInt 2)).toNatClampNeg), .int (xs (v4 + (Int32.ofInt 1)).toNatClampNeg), .ref 1], mc, ms) _
  refine pj_R_ca pj_lz_mon (vs := [.ref 1, .int (xs (v4 + (Int32.ofInt 1)).toNatClampNeg), .int (xs (v4 + (Int32.ofInt 2)).toNatClampNeg)]) (S2 := [.int y1]) (pj_cs20_s _ _ rfl) (fun _ => rfl) ⟨Nat.le_of_ble_eq_true rfl, Nat.le_of_ble_eq_true rfl, pj_T_rcv hI rfl⟩ ⟨rfl, rfl, rfl⟩ (pj_E_lz (by decide) (by decide) q1) ?_
  show pj_R _ _ _ _ (G1, 825, [(4, .int v4), (3, .ref 203), (2, .ref 171), (1, .ref 1), (0, .ref 0)], [.int y1], mc, ms) _
  refine pj_R_tz (M' := pj_cs20) rfl pj_cs20_s (G1, 832, [(4, .int v4), (3, .ref 203), (2, .ref 171), (1, .ref 1), (0, .ref 0)], [.int (v4 + (Int32.ofInt 1)), .ref 0, .ref 171], mc, ms) 832 7 (fun _ => rfl) ?_
  refine pj_R_sl (pj_cs20_s _ _ rfl) (by omega) (by omega) ?_
  show pj_R _ _ _ _ (G1, 833, [(4, .int v4), (3, .ref 203), (2, .ref 171), (1, .ref 1), (0, .ref 0)], [.int (xs (v4 + (Int32.ofInt 1)).toNatClampNeg), .ref 171], mc, ms) _
  refine pj_R_tz (M' := pj_cs20) rfl pj_cs20_s (G1, 838, [(4, .int v4), (3, .ref 203), (2, .ref 171), (1, .ref 1), (0, .ref 0)], [.int (v4 + (Int32.ofInt 2)), .ref 0, .int (xs (v4 + (Int32.ofInt 1)).toNatClampNeg), .ref 171], mc, ms) 838 5 (fun _ => rfl) ?_
  refine pj_R_sl (pj_cs20_s _ _ rfl) (by omega) (by omega) ?_
  show pj_R _ _ _ _ (G1, 839, [(4, .int v4), (3, .ref 203), (2, .ref 171), (1, .ref 1), (0, .ref 0)], [.int (xs (v4 + (Int32.ofInt 2)).toNatClampNeg), .int (xs (v4 + (Int32.ofInt 1)).toNatClampNeg), .ref 171], mc, ms) _
  refine pj_R_ca pj_lz_mon (vs := [.ref 171, .int (xs (v4 + (Int32.ofInt 1)).toNatClampNeg), .int (xs (v4 + (Int32.ofInt 2)).toNatClampNeg)]) (S2 := [.int y2]) (pj_cs20_s _ _ rfl) (fun _ => rfl) ⟨Nat.le_of_ble_eq_true rfl, Nat.le_of_ble_eq_true rfl, pj_T_rcv i1 rfl⟩ ⟨rfl, rfl, rfl⟩ (pj_E_lz (by decide) (by decide) q2) ?_
  show pj_R _ _ _ _ (G2, 842, [(4, .int v4), (3, .ref 203), (2, .ref 171), (1, .ref 1), (0, .ref 0)], [.int y2], mc, ms) _
  refine pj_R_tz (M' := pj_cs20) rfl pj_cs20_s (G2, 1484, [(4, .int v4), (3, .ref 203), (2, .ref 171), (1, .ref 1), (0, .ref 0)], [], mc, ms) 1484 3 (fun _ => rfl) ?_
  exact hr
def pj_cs21 : pj_M := (pj_law.1, pj_law.2.1, 8, some .boolean, pj_law.2.2.2.2.1, [(846, .aload_n 1, 1, [], 0), (847, .invokevirtual 117, 3, [0, 1, 138, 11, 1011], 0), (850, .pop, 1, [], 0), (851, .aload_n 2, 1, [], 0), (852, .invokevirtual 120, 3, [0, 1, 241, 12, 1862], 0), (855, .pop, 1, [], 0), (856, .goto 628, 3, [1484], 0)])
set_option maxRecDepth 100000 in
theorem pj_cs21_ok : pj_cs21.2.2.2.2.2.all (fun q => decide (pj_find pj_law.2.2.2.2.2 q.1 = some q.2)) = true := by decide +kernel
theorem pj_cs21_s : ∀ pc q, pj_find pj_cs21.2.2.2.2.2 pc = some q → pj_find pj_law.2.2.2.2.2 pc = some q := fun pc q hq => of_decide_eq_true (List.all_eq_true.mp pj_cs21_ok (pc, q) (pj_find_s hq))
set_option maxRecDepth 100000 in
set_option maxHeartbeats 8000000 in
theorem lw_21 {k : Nat} {xs : Nat → Int32} (hk : k ≤ 2560) (G : pj_G) (v4 : Int32) (hG : pj_LI v4.toInt G) (h0 : 0 ≤ v4.toInt) (h5 : v4.toInt + 5 ≤ k) (mc ms : Nat) : ∃ (G' : pj_G) (dc ds : Nat), pj_LI (v4.toInt + 5) G' ∧ dc ≤ 1 ∧ ds ≤ 6 ∧ ∀ r, pj_R pj_lz (k + 1) xs pj_law (G', 1484, [(4, .int v4), (3, .ref 203), (2, .ref 171), (1, .ref 1), (0, .ref 0)], [], mc + dc, ms + ds) r → pj_R pj_lz (k + 1) xs pj_law (G, 846, [(4, .int v4), (3, .ref 203), (2, .ref 171), (1, .ref 1), (0, .ref 0)], [], mc, ms) r := by
  have ix1 : (v4 + Int32.ofInt 1).toInt = v4.toInt + 1 := pj_ix5 (by decide) h0 (by omega) (by decide) (by decide)
  have ix2 : (v4 + Int32.ofInt 2).toInt = v4.toInt + 2 := pj_ix5 (by decide) h0 (by omega) (by decide) (by decide)
  have ix3 : (v4 + Int32.ofInt 3).toInt = v4.toInt + 3 := pj_ix5 (by decide) h0 (by omega) (by decide) (by decide)
  have ix4 : (v4 + Int32.ofInt 4).toInt = v4.toInt + 4 := pj_ix5 (by decide) h0 (by omega) (by decide) (by decide)
  obtain ⟨hI, hR, hU, hT, hF, hN, hK, hE6⟩ := hG
  have hE1 := hT.1
  have hE2 := hT.2
  obtain ⟨v1, G1, q1, y1, rfl, i1, j1, -⟩ := ct_138 G hI  
  have g1 : ∀ b, 171 ≤ b → b < 203 → pj_get G1 b = pj_get G b := fun b h1 h2 => j1.2.1.1 b (pj_nc h1 h2 rfl)
  have hR1 : pj_RI G1 := pj_RI_g g1 hR
  have hU1 : (pj_fi G1 171 30).toInt ≤ 15 := pj_UN_g g1 hU
  obtain ⟨v2, G2, q2, y2, rfl, i2, j2, -⟩ := ct_241 G1 i1  
  have a1 : (pj_fi G1 2 1).toInt = (pj_fi G 2 1).toInt := by rw [show pj_fi G1 2 1 = pj_fi G 2 1 from j1.1 (2, 1) (by decide)]
  have a2 : (pj_fi G1 171 16).toInt = (pj_fi G 171 16).toInt := by rw [pj_fi_g (g1 171 (by decide) (by decide))]
  have a3 : (pj_fi G2 2 1).toInt = (pj_fi G1 2 1).toInt := by rw [show pj_fi G2 2 1 = pj_fi G1 2 1 from j2.1 (2, 1) (by decide)]
  have a4 : (pj_fi G2 171 16).toInt = (pj_fi G1 171 16).toInt := by rw [show pj_fi G2 171 16 = pj_fi G1 171 16 from j2.1 (171, 16) (by decide)]
  refine ⟨G2, 0, 0, ⟨i2, (pj_RI_k hR1 j2 rfl), (by have q9 : pj_fi G2 171 30 = pj_fi G1 171 30 := j2.1 (171, 30) (by decide); rw [q9]; exact hU1), ⟨by omega, fun j hj => by rw [j2.2.2 3 (by decide) j, j2.2.2 180 (by decide) j, j1.2.2 3 (by decide) j, j1.2.2 180 (by decide) j]; exact hE2 j (by omega)⟩, mr_FR (mr_FX (mr_FG (mr_FC hF j1 rfl rfl) g1) j2 rfl rfl) j2 rfl, mr_Nk hN ((j2.1 (171, 7) (by decide)).trans (mr_gi (g1 171 (by decide) (by decide)))), mr_KR (mr_KX (mr_KG (mr_KC hK j1 rfl rfl) g1) j2 rfl rfl) j2 rfl, mr_En (mr_ER (mr_EC (mr_EG (mr_EC hE6 hI j1 rfl) i1 g1) i1 j2 rfl) i2 j2 rfl)⟩, by decide, by decide, fun r hr => ?_⟩
  refine pj_R_tz (M' := pj_cs21) rfl pj_cs21_s (G, 847, [(4, .int v4), (3, .ref 203), (2, .ref 171), (1, .ref 1), (0, .ref 0)], [.ref 1], mc, ms) 847 2 (fun _ => rfl) ?_
  refine pj_R_ca pj_lz_mon (vs := [.ref 1]) (S2 := [.int y1]) (pj_cs21_s _ _ rfl) (fun _ => rfl) ⟨Nat.le_of_ble_eq_true rfl, Nat.le_of_ble_eq_true rfl, pj_T_rcv hI rfl⟩ ⟨rfl, rfl, rfl⟩ (pj_E_lz (by decide) (by decide) q1) ?_
  show pj_R _ _ _ _ (G1, 850, [(4, .int v4), (3, .ref 203), (2, .ref 171), (1, .ref 1), (0, .ref 0)], [.int y1], mc, ms) _
  refine pj_R_tz (M' := pj_cs21) rfl pj_cs21_s (G1, 852, [(4, .int v4), (3, .ref 203), (2, .ref 171), (1, .ref 1), (0, .ref 0)], [.ref 171], mc, ms) 852 3 (fun _ => rfl) ?_
  refine pj_R_ca pj_lz_mon (vs := [.ref 171]) (S2 := [.int y2]) (pj_cs21_s _ _ rfl) (fun _ => rfl) ⟨Nat.le_of_ble_eq_true rfl, Nat.le_of_ble_eq_true rfl, pj_T_rcv i1 rfl⟩ ⟨rfl, rfl, rfl⟩ (pj_E_lz (by decide) (by decide) q2) ?_
  show pj_R _ _ _ _ (G2, 855, [(4, .int v4), (3, .ref 203), (2, .ref 171), (1, .ref 1), (0, .ref 0)], [.int y2], mc, ms) _
  refine pj_R_tz (M' := pj_cs21) rfl pj_cs21_s (G2, 1484, [(4, .int v4), (3, .ref 203), (2, .ref 171), (1, .ref 1), (0, .ref 0)], [], mc, ms) 1484 3 (fun _ => rfl) ?_
  exact hr
