def pj_cs22 : pj_M := (pj_law.1, pj_law.2.1, 8, some .boolean, pj_law.2.2.2.2.1, [(859, .aload_n 1, 1, [], 0), (860, .aload_n 0, 1, [], 0), (861, .iload 4, 2, [], 0), (863, .iconst 1, 1, [], 0), (864, .iadd, 1, [], 0), (865, .iaload, 1, [], 0), (866, .invokevirtual 121, 3, [0, 2, 139, 11, 1019], 0), (869, .pop, 1, [], 0), (870, .aload_n 2, 1, [], 0), (871, .aload_n 0, 1, [], 0), (872, .iload 4, 2, [], 0), (874, .iconst 1, 1, [], 0), (875, .iadd, 1, [], 0), (876, .iaload, 1, [], 0), (877, .invokevirtual 124, 3, [0, 2, 245, 12, 1866], 0), (880, .pop, 1, [], 0), (881, .goto 603, 3, [1484], 0)])
set_option maxRecDepth 100000 in
theorem pj_cs22_ok : pj_cs22.2.2.2.2.2.all (fun q => decide (pj_find pj_law.2.2.2.2.2 q.1 = some q.2)) = true := by decide +kernel
theorem pj_cs22_s : ∀ pc q, pj_find pj_cs22.2.2.2.2.2 pc = some q → pj_find pj_law.2.2.2.2.2 pc = some q := fun pc q hq => of_decide_eq_true (List.all_eq_true.mp pj_cs22_ok (pc, q) (pj_find_s hq))
set_option maxRecDepth 100000 in
set_option maxHeartbeats 8000000 in
theorem lw_22 {k : Nat} {xs : Nat → Int32} (hk : k ≤ 2560) (G : pj_G) (v4 : Int32) (hG : pj_LI v4.toInt G) (h0 : 0 ≤ v4.toInt) (h5 : v4.toInt + 5 ≤ k) (mc ms : Nat) : ∃ (G' : pj_G) (dc ds : Nat), pj_LI (v4.toInt + 5) G' ∧ dc ≤ 1 ∧ ds ≤ 6 ∧ ∀ r, pj_R pj_lz (k + 1) xs pj_law (G', 1484, [(4, .int v4), (3, .ref 203), (2, .ref 171), (1, .ref 1), (0, .ref 0)], [], mc + dc, ms + ds) r → pj_R pj_lz (k + 1) xs pj_law (G, 859, [(4, .int v4), (3, .ref 203), (2, .ref 171), (1, .ref 1), (0, .ref 0)], [], mc, ms) r := by
  have ix1 : (v4 + Int32.ofInt 1).toInt = v4.toInt + 1 := pj_ix5 (by decide) h0 (by omega) (by decide) (by decide)
  have ix2 : (v4 + Int32.ofInt 2).toInt = v4.toInt + 2 := pj_ix5 (by decide) h0 (by omega) (by decide) (by decide)
  have ix3 : (v4 + Int32.ofInt 3).toInt = v4.toInt + 3 := pj_ix5 (by decide) h0 (by omega) (by decide) (by decide)
  have ix4 : (v4 + Int32.ofInt 4).toInt = v4.toInt + 4 := pj_ix5 (by decide) h0 (by omega) (by decide) (by decide)
  obtain ⟨hI, hR, hU, hT, hF, hN, hK, hE6⟩ := hG
  have hE1 := hT.1
  have hE2 := hT.2
  obtain ⟨v1, G1, q1, y1, rfl, i1, j1, -⟩ := ct_139 G hI (xs (v4 + Int32.ofInt 1).toNatClampNeg) 
  have g1 : ∀ b, 171 ≤ b → b < 203 → pj_get G1 b = pj_get G b := fun b h1 h2 => j1.2.1.1 b (pj_nc h1 h2 rfl)
  have hR1 : pj_RI G1 := pj_RI_g g1 hR
  have hU1 : (pj_fi G1 171 30).toInt ≤ 15 := pj_UN_g g1 hU
  obtain ⟨v2, G2, q2, y2, rfl, i2, j2, -⟩ := ct_245 G1 i1 (xs (v4 + Int32.ofInt 1).toNatClampNeg) 
  have a1 : (pj_fi G1 2 1).toInt = (pj_fi G 2 1).toInt := by rw [show pj_fi G1 2 1 = pj_fi G 2 1 from j1.1 (2, 1) (by decide)]
  have a2 : (pj_fi G1 171 16).toInt = (pj_fi G 171 16).toInt := by rw [pj_fi_g (g1 171 (by decide) (by decide))]
  have a3 : (pj_fi G2 2 1).toInt = (pj_fi G1 2 1).toInt := by rw [show pj_fi G2 2 1 = pj_fi G1 2 1 from j2.1 (2, 1) (by decide)]
  have a4 : (pj_fi G2 171 16).toInt = (pj_fi G1 171 16).toInt := by rw [show pj_fi G2 171 16 = pj_fi G1 171 16 from j2.1 (171, 16) (by decide)]
  refine ⟨G2, 0, 0, ⟨i2, (pj_RI_k hR1 j2 rfl), (by have q9 : pj_fi G2 171 30 = pj_fi G1 171 30 := j2.1 (171, 30) (by decide); rw [q9]; exact hU1), ⟨by omega, fun j hj => by rw [j2.2.2 3 (by decide) j, j2.2.2 180 (by decide) j, j1.2.2 3 (by decide) j, j1.2.2 180 (by decide) j]; exact hE2 j (by omega)⟩, mr_FR (mr_FX (mr_FG (mr_FC hF j1 rfl rfl) g1) j2 rfl rfl) j2 rfl, mr_Nk hN ((j2.1 (171, 7) (by decide)).trans (mr_gi (g1 171 (by decide) (by decide)))), mr_KR (mr_KX (mr_KG (mr_KC hK j1 rfl rfl) g1) j2 rfl rfl) j2 rfl, mr_En (mr_ER (mr_EC (mr_EG (mr_EC hE6 hI j1 rfl) i1 g1) i1 j2 rfl) i2 j2 rfl)⟩, by decide, by decide, fun r hr => ?_⟩
  refine pj_R_tz (M' := pj_cs22) rfl pj_cs22_s (G, 865, [(4, .int v4), (3, .ref 203), (2, .ref 171), (1, .ref 1), (0, .ref 0)], [.int (v4 + (Int32.ofInt 1)), .ref 0, .ref 1], mc, ms) 865 6 (fun _ => rfl) ?_
  refine pj_R_sl (pj_cs22_s _ _ rfl) (by omega) (by omega) ?_
  show pj_R _ _ _ _ (G, 866, [(4, .int v4), (3, .ref 203), (2, .ref 171), (1, .ref 1), (0, .ref 0)], [.int (xs (v4 + (Int32.ofInt 1)).toNatClampNeg), .ref 1], mc, ms) _
  refine pj_R_ca pj_lz_mon (vs := [.ref 1, .int (xs (v4 + (Int32.ofInt 1)).toNatClampNeg)]) (S2 := [.int y1]) (pj_cs22_s _ _ rfl) (fun _ => rfl) ⟨Nat.le_of_ble_eq_true rfl, Nat.le_of_ble_eq_true rfl, pj_T_rcv hI rfl⟩ ⟨rfl, rfl, rfl⟩ (pj_E_lz (by decide) (by decide) q1) ?_
  show pj_R _ _ _ _ (G1, 869, [(4, .int v4), (3, .ref 203), (2, .ref 171), (1, .ref 1), (0, .ref 0)], [.int y1], mc, ms) _
  refine pj_R_tz (M' := pj_cs22) rfl pj_cs22_s (G1, 876, [(4, .int v4), (3, .ref 203), (2, .ref 171), (1, .ref 1), (0, .ref 0)], [.int (v4 + (Int32.ofInt 1)), .ref 0, .ref 171], mc, ms) 876 7 (fun _ => rfl) ?_
  refine pj_R_sl (pj_cs22_s _ _ rfl) (by omega) (by omega) ?_
  show pj_R _ _ _ _ (G1, 877, [(4, .int v4), (3, .ref 203), (2, .ref 171), (1, .ref 1), (0, .ref 0)], [.int (xs (v4 + (Int32.ofInt 1)).toNatClampNeg), .ref 171], mc, ms) _
  refine pj_R_ca pj_lz_mon (vs := [.ref 171, .int (xs (v4 + (Int32.ofInt 1)).toNatClampNeg)]) (S2 := [.int y2]) (pj_cs22_s _ _ rfl) (fun _ => rfl) ⟨Nat.le_of_ble_eq_true rfl, Nat.le_of_ble_eq_true rfl, pj_T_rcv i1 rfl⟩ ⟨rfl, rfl, rfl⟩ (pj_E_lz (by decide) (by decide) q2) ?_
  show pj_R _ _ _ _ (G2, 880, [(4, .int v4), (3, .ref 203), (2, .ref 171), (1, .ref 1), (0, .ref 0)], [.int y2], mc, ms) _
  refine pj_R_tz (M' := pj_cs22) rfl pj_cs22_s (G2, 1484, [(4, .int v4), (3, .ref 203), (2, .ref 171), (1, .ref 1), (0, .ref 0)], [], mc, ms) 1484 3 (fun _ => rfl) ?_
  exact hr
def pj_cs23 : pj_M := (pj_law.1, pj_law.2.1, 8, some .boolean, pj_law.2.2.2.2.1, [(884, .aload_n 1, 1, [], 0), (885, .aload_n 0, 1, [], 0), (886, .iload 4, 2, [], 0), (888, .iconst 1, 1, [], 0), (889, .iadd, 1, [], 0), (890, .iaload, 1, [], 0), (891, .invokevirtual 125, 3, [0, 2, 140, 11, 1046], 0), (894, .pop, 1, [], 0), (895, .aload_n 2, 1, [], 0), (896, .aload_n 0, 1, [], 0), (897, .iload 4, 2, [], 0), (899, .iconst 1, 1, [], 0), (900, .iadd, 1, [], 0), (901, .iaload, 1, [], 0), (902, .invokevirtual 128, 3, [0, 2, 248, 12, 1878], 0), (905, .pop, 1, [], 0), (906, .goto 578, 3, [1484], 0)])
set_option maxRecDepth 100000 in
theorem pj_cs23_ok : pj_cs23.2.2.2.2.2.all (fun q => decide (pj_find pj_law.2.2.2.2.2 q.1 = some q.2)) = true := by decide +kernel
theorem pj_cs23_s : ∀ pc q, pj_find pj_cs23.2.2.2.2.2 pc = some q → pj_find pj_law.2.2.2.2.2 pc = some q := fun pc q hq => of_decide_eq_true (List.all_eq_true.mp pj_cs23_ok (pc, q) (pj_find_s hq))
set_option maxRecDepth 100000 in
set_option maxHeartbeats 8000000 in
theorem lw_23 {k : Nat} {xs : Nat → Int32} (hk : k ≤ 2560) (G : pj_G) (v4 : Int32) (hG : pj_LI v4.toInt G) (h0 : 0 ≤ v4.toInt) (h5 : v4.toInt + 5 ≤ k) (mc ms : Nat) : ∃ (G' : pj_G) (dc ds : Nat), pj_LI (v4.toInt + 5) G' ∧ dc ≤ 1 ∧ ds ≤ 6 ∧ ∀ r, pj_R pj_lz (k + 1) xs pj_law (G', 1484, [(4, .int v4), (3, .ref 203), (2, .ref 171), (1, .ref 1), (0, .ref 0)], [], mc + dc, ms + ds) r → pj_R pj_lz (k + 1) xs pj_law (G, 884, [(4, .int v4), (3, .ref 203), (2, .ref 171), (1, .ref 1), (0, .ref 0)], [], mc, ms) r := by
  have ix1 : (v4 + Int32.ofInt 1).toInt = v4.toInt + 1 := pj_ix5 (by decide) h0 (by omega) (by decide) (by decide)
  have ix2 : (v4 + Int32.ofInt 2).toInt = v4.toInt + 2 := pj_ix5 (by decide) h0 (by omega) (by decide) (by decide)
  have ix3 : (v4 + Int32.ofInt 3).toInt = v4.toInt + 3 := pj_ix5 (by decide) h0 (by omega) (by decide) (by decide)
  have ix4 : (v4 + Int32.ofInt 4).toInt = v4.toInt + 4 := pj_ix5 (by decide) h0 (by omega) (by decide) (by decide)
  obtain ⟨hI, hR, hU, hT, hF, hN, hK, hE6⟩ := hG
  have hE1 := hT.1
  have hE2 := hT.2
  obtain ⟨v1, G1, q1, y1, rfl, i1, j1, -⟩ := ct_140 G hI (xs (v4 + Int32.ofInt 1).toNatClampNeg) 
  have g1 : ∀ b, 171 ≤ b → b < 203 → pj_get G1 b = pj_get G b := fun b h1 h2 => j1.2.1.1 b (pj_nc h1 h2 rfl)
  have hR1 : pj_RI G1 := pj_RI_g g1 hR
  have hU1 : (pj_fi G1 171 30).toInt ≤ 15 := pj_UN_g g1 hU
  obtain ⟨v2, G2, q2, y2, rfl, i2, j2, -⟩ := ct_248 G1 i1 (xs (v4 + Int32.ofInt 1).toNatClampNeg) 
  have a1 : (pj_fi G1 2 1).toInt = (pj_fi G 2 1).toInt := by rw [show pj_fi G1 2 1 = pj_fi G 2 1 from j1.1 (2, 1) (by decide)]
  have a2 : (pj_fi G1 171 16).toInt = (pj_fi G 171 16).toInt := by rw [pj_fi_g (g1 171 (by decide) (by decide))]
  have a3 : (pj_fi G2 2 1).toInt = (pj_fi G1 2 1).toInt := by rw [show pj_fi G2 2 1 = pj_fi G1 2 1 from j2.1 (2, 1) (by decide)]
  have a4 : (pj_fi G2 171 16).toInt = (pj_fi G1 171 16).toInt := by rw [show pj_fi G2 171 16 = pj_fi G1 171 16 from j2.1 (171, 16) (by decide)]
  refine ⟨G2, 0, 0, ⟨i2, (pj_RI_k hR1 j2 rfl), (by have q9 : pj_fi G2 171 30 = pj_fi G1 171 30 := j2.1 (171, 30) (by decide); rw [q9]; exact hU1), ⟨by omega, fun j hj => by rw [j2.2.2 3 (by decide) j, j2.2.2 180 (by decide) j, j1.2.2 3 (by decide) j, j1.2.2 180 (by decide) j]; exact hE2 j (by omega)⟩, mr_FR (mr_FX (mr_FG (mr_FC hF j1 rfl rfl) g1) j2 rfl rfl) j2 rfl, mr_Nk hN ((j2.1 (171, 7) (by decide)).trans (mr_gi (g1 171 (by decide) (by decide)))), mr_KR (mr_KX (mr_KG (mr_KC hK j1 rfl rfl) g1) j2 rfl rfl) j2 rfl, mr_En (mr_ER (mr_EC (mr_EG (mr_EC hE6 hI j1 rfl) i1 g1) i1 j2 rfl) i2 j2 rfl)⟩, by decide, by decide, fun r hr => ?_⟩
  refine pj_R_tz (M' := pj_cs23) rfl pj_cs23_s (G, 890, [(4, .int v4), (3, .ref 203), (2, .ref 171), (1, .ref 1), (0, .ref 0)], [.int (v4 + (Int32.ofInt 1)), .ref 0, .ref 1], mc, ms) 890 6 (fun _ => rfl) ?_
  refine pj_R_sl (pj_cs23_s _ _ rfl) (by omega) (by omega) ?_
  show pj_R _ _ _ _ (G, 891, [(4, .int v4), (3, .ref 203), (2, .ref 171), (1, .ref 1), (0, .ref 0)], [.int (xs (v4 + (Int32.ofInt 1)).toNatClampNeg), .ref 1], mc, ms) _
  refine pj_R_ca pj_lz_mon (vs := [.ref 1, .int (xs (v4 + (Int32.ofInt 1)).toNatClampNeg)]) (S2 := [.int y1]) (pj_cs23_s _ _ rfl) (fun _ => rfl) ⟨Nat.le_of_ble_eq_true rfl, Nat.le_of_ble_eq_true rfl, pj_T_rcv hI rfl⟩ ⟨rfl, rfl, rfl⟩ (pj_E_lz (by decide) (by decide) q1) ?_
  show pj_R _ _ _ _ (G1, 894, [(4, .int v4), (3, .ref 203), (2, .ref 171), (1, .ref 1), (0, .ref 0)], [.int y1], mc, ms) _
  refine pj_R_tz (M' := pj_cs23) rfl pj_cs23_s (G1, 901, [(4, .int v4), (3, .ref 203), (2, .ref 171), (1, .ref 1), (0, .ref 0)], [.int (v4 + (Int32.ofInt 1)), .ref 0, .ref 171], mc, ms) 901 7 (fun _ => rfl) ?_
  refine pj_R_sl (pj_cs23_s _ _ rfl) (by omega) (by omega) ?_
  show pj_R _ _ _ _ (G1, 902, [(4, .int v4), (3, .ref 203), (2, .ref 171), (1, .ref 1), (0, .ref 0)], [.int (xs (v4 + (Int32.ofInt 1)).toNatClampNeg), .ref 171], mc, ms) _
  refine pj_R_ca pj_lz_mon (vs := [.ref 171, .int (xs (v4 + (Int32.ofInt 1)).toNatClampNeg)]) (S2 := [.int y2]) (pj_cs23_s _ _ rfl) (fun _ => rfl) ⟨Nat.le_of_ble_eq_true rfl, Nat.le_of_ble_eq_true rfl, pj_T_rcv i1 rfl⟩ ⟨rfl, rfl, rfl⟩ (pj_E_lz (by decide) (by decide) q2) ?_
  show pj_R _ _ _ _ (G2, 905, [(4, .int v4), (3, .ref 203), (2, .ref 171), (1, .ref 1), (0, .ref 0)], [.int y2], mc, ms) _
  refine pj_R_tz (M' := pj_cs23) rfl pj_cs23_s (G2, 1484, [(4, .int v4), (3, .ref 203), (2, .ref 171), (1, .ref 1), (0, .ref 0)], [], mc, ms) 1484 3 (fun _ => rfl) ?_
  exact hr
def pj_cs24 : pj_M := (pj_law.1, pj_law.2.1, 8, some .boolean, pj_law.2.2.2.2.1, [(909, .aload_n 1, 1, [], 0), (910, .invokevirtual 129, 3, [0, 1, 141, 11, 1069], 0), (913, .pop, 1, [], 0), (914, .aload_n 2, 1, [], 0), (915, .invokevirtual 132, 3, [0, 1, 249, 12, 1895], 0), (918, .pop, 1, [], 0), (919, .goto 565, 3, [1484], 0)])
set_option maxRecDepth 100000 in
theorem pj_cs24_ok : pj_cs24.2.2.2.2.2.all (fun q => decide (pj_find pj_law.2.2.2.2.2 q.1 = some q.2)) = true := by decide +kernel
theorem pj_cs24_s : ∀ pc q, pj_find pj_cs24.2.2.2.2.2 pc = some q → pj_find pj_law.2.2.2.2.2 pc = some q := fun pc q hq => of_decide_eq_true (List.all_eq_true.mp pj_cs24_ok (pc, q) (pj_find_s hq))
set_option maxRecDepth 100000 in
set_option maxHeartbeats 8000000 in
theorem lw_24 {k : Nat} {xs : Nat → Int32} (hk : k ≤ 2560) (G : pj_G) (v4 : Int32) (hG : pj_LI v4.toInt G) (h0 : 0 ≤ v4.toInt) (h5 : v4.toInt + 5 ≤ k) (mc ms : Nat) : ∃ (G' : pj_G) (dc ds : Nat), pj_LI (v4.toInt + 5) G' ∧ dc ≤ 1 ∧ ds ≤ 6 ∧ ∀ r, pj_R pj_lz (k + 1) xs pj_law (G', 1484, [(4, .int v4), (3, .ref 203), (2, .ref 171), (1, .ref 1), (0, .ref 0)], [], mc + dc, ms + ds) r → pj_R pj_lz (k + 1) xs pj_law (G, 909, [(4, .int v4), (3, .ref 203), (2, .ref 171), (1, .ref 1), (0, .ref 0)], [], mc, ms) r := by
  have ix1 : (v4 + Int32.ofInt 1).toInt = v4.toInt + 1 := pj_ix5 (by decide) h0 (by omega) (by decide) (by decide)
  have ix2 : (v4 + Int32.ofInt 2).toInt = v4.toInt + 2 := pj_ix5 (by decide) h0 (by omega) (by decide) (by decide)
  have ix3 : (v4 + Int32.ofInt 3).toInt = v4.toInt + 3 := pj_ix5 (by decide) h0 (by omega) (by decide) (by decide)
  have ix4 : (v4 + Int32.ofInt 4).toInt = v4.toInt + 4 := pj_ix5 (by decide) h0 (by omega) (by decide) (by decide)
  obtain ⟨hI, hR, hU, hT, hF, hN, hK, hE6⟩ := hG
  have hE1 := hT.1
  have hE2 := hT.2
  obtain ⟨v1, G1, q1, y1, rfl, i1, j1, -⟩ := ct_141 G hI  
  have g1 : ∀ b, 171 ≤ b → b < 203 → pj_get G1 b = pj_get G b := fun b h1 h2 => j1.2.1.1 b (pj_nc h1 h2 rfl)
  have hR1 : pj_RI G1 := pj_RI_g g1 hR
  have hU1 : (pj_fi G1 171 30).toInt ≤ 15 := pj_UN_g g1 hU
  obtain ⟨v2, G2, q2, y2, rfl, i2, j2, -⟩ := ct_249 G1 i1  
  have a1 : (pj_fi G1 2 1).toInt = (pj_fi G 2 1).toInt := by rw [show pj_fi G1 2 1 = pj_fi G 2 1 from j1.1 (2, 1) (by decide)]
  have a2 : (pj_fi G1 171 16).toInt = (pj_fi G 171 16).toInt := by rw [pj_fi_g (g1 171 (by decide) (by decide))]
  have a3 : (pj_fi G2 2 1).toInt = (pj_fi G1 2 1).toInt := by rw [show pj_fi G2 2 1 = pj_fi G1 2 1 from j2.1 (2, 1) (by decide)]
  have a4 : (pj_fi G2 171 16).toInt = (pj_fi G1 171 16).toInt := by rw [show pj_fi G2 171 16 = pj_fi G1 171 16 from j2.1 (171, 16) (by decide)]
  refine ⟨G2, 0, 0, ⟨i2, (pj_RI_k hR1 j2 rfl), (by have q9 : pj_fi G2 171 30 = pj_fi G1 171 30 := j2.1 (171, 30) (by decide); rw [q9]; exact hU1), ⟨by omega, fun j hj => by rw [j2.2.2 3 (by decide) j, j2.2.2 180 (by decide) j, j1.2.2 3 (by decide) j, j1.2.2 180 (by decide) j]; exact hE2 j (by omega)⟩, mr_FR (mr_FX (mr_FG (mr_FC hF j1 rfl rfl) g1) j2 rfl rfl) j2 rfl, mr_Nk hN ((j2.1 (171, 7) (by decide)).trans (mr_gi (g1 171 (by decide) (by decide)))), mr_KR (mr_KX (mr_KG (mr_KC hK j1 rfl rfl) g1) j2 rfl rfl) j2 rfl, mr_En (mr_ER (mr_EC (mr_EG (mr_EC hE6 hI j1 rfl) i1 g1) i1 j2 rfl) i2 j2 rfl)⟩, by decide, by decide, fun r hr => ?_⟩
  refine pj_R_tz (M' := pj_cs24) rfl pj_cs24_s (G, 910, [(4, .int v4), (3, .ref 203), (2, .ref 171), (1, .ref 1), (0, .ref 0)], [.ref 1], mc, ms) 910 2 (fun _ => rfl) ?_
  refine pj_R_ca pj_lz_mon (vs := [.ref 1]) (S2 := [.int y1]) (pj_cs24_s _ _ rfl) (fun _ => rfl) ⟨Nat.le_of_ble_eq_true rfl, Nat.le_of_ble_eq_true rfl, pj_T_rcv hI rfl⟩ ⟨rfl, rfl, rfl⟩ (pj_E_lz (by decide) (by decide) q1) ?_
  show pj_R _ _ _ _ (G1, 913, [(4, .int v4), (3, .ref 203), (2, .ref 171), (1, .ref 1), (0, .ref 0)], [.int y1], mc, ms) _
  refine pj_R_tz (M' := pj_cs24) rfl pj_cs24_s (G1, 915, [(4, .int v4), (3, .ref 203), (2, .ref 171), (1, .ref 1), (0, .ref 0)], [.ref 171], mc, ms) 915 3 (fun _ => rfl) ?_
  refine pj_R_ca pj_lz_mon (vs := [.ref 171]) (S2 := [.int y2]) (pj_cs24_s _ _ rfl) (fun _ => rfl) ⟨Nat.le_of_ble_eq_true rfl, Nat.le_of_ble_eq_true rfl, pj_T_rcv i1 rfl⟩ ⟨rfl, rfl, rfl⟩ (pj_E_lz (by decide) (by decide) q2) ?_
  show pj_R _ _ _ _ (G2, 918, [(4, .int v4), (3, .ref 203), (2, .ref 171), (1, .ref 1), (0, .ref 0)], [.int y2], mc, ms) _
  refine pj_R_tz (M' := pj_cs24) rfl pj_cs24_s (G2, 1484, [(4, .int v4), (3, .ref 203), (2, .ref 171), (1, .ref 1), (0, .ref 0)], [], mc, ms) 1484 3 (fun _ => rfl) ?_
  exact hr
def pj_cs25 : pj_M := (pj_law.1, pj_law.2.1, 8, some .boolean, pj_law.2.2.2.2.1, [(922, .aload_n 1, 1, [], 0), (923, .invokevirtual 133, 3, [0, 1, 142, 11, 1078], 0), (926, .pop, 1, [], 0), (927, .aload_n 2, 1, [], 0), (928, .invokevirtual 136, 3, [0, 1, 250, 12, 1899], 0), (931, .pop, 1, [], 0), (932, .goto 552, 3, [1484], 0)])
set_option maxRecDepth 100000 in
theorem pj_cs25_ok : pj_cs25.2.2.2.2.2.all (fun q => decide (pj_find pj_law.2.2.2.2.2 q.1 = some q.2)) = true := by decide +kernel
theorem pj_cs25_s : ∀ pc q, pj_find pj_cs25.2.2.2.2.2 pc = some q → pj_find pj_law.2.2.2.2.2 pc = some q := fun pc q hq => of_decide_eq_true (List.all_eq_true.mp pj_cs25_ok (pc, q) (pj_find_s hq))
set_option maxRecDepth 100000 in
set_option maxHeartbeats 8000000 in
theorem lw_25 {k : Nat} {xs : Nat → Int32} (hk : k ≤ 2560) (G : pj_G) (v4 : Int32) (hG : pj_LI v4.toInt G) (h0 : 0 ≤ v4.toInt) (h5 : v4.toInt + 5 ≤ k) (mc ms : Nat) : ∃ (G' : pj_G) (dc ds : Nat), pj_LI (v4.toInt + 5) G' ∧ dc ≤ 1 ∧ ds ≤ 6 ∧ ∀ r, pj_R pj_lz (k + 1) xs pj_law (G', 1484, [(4, .int v4), (3, .ref 203), (2, .ref 171), (1, .ref 1), (0, .ref 0)], [], mc + dc, ms + ds) r → pj_R pj_lz (k + 1) xs pj_law (G, 922, [(4, .int v4), (3, .ref 203), (2, .ref 171), (1, .ref 1), (0, .ref 0)], [], mc, ms) r := by
  have ix1 : (v4 + Int32.ofInt 1).toInt = v4.toInt + 1 := pj_ix5 (by decide) h0 (by omega) (by decide) (by decide)
  have ix2 : (v4 + Int32.ofInt 2).toInt = v4.toInt + 2 := pj_ix5 (by decide) h0 (by omega) (by decide) (by decide)
  have ix3 : (v4 + Int32.ofInt 3).toInt = v4.toInt + 3 := pj_ix5 (by decide) h0 (by omega) (by decide) (by decide)
  have ix4 : (v4 + Int32.ofInt 4).toInt = v4.toInt + 4 := pj_ix5 (by decide) h0 (by omega) (by decide) (by decide)
  obtain ⟨hI, hR, hU, hT, hF, hN, hK, hE6⟩ := hG
  have hE1 := hT.1
  have hE2 := hT.2
  obtain ⟨v1, G1, q1, y1, rfl, i1, j1, -, e1⟩ := ct_142t G hI  
  have g1 : ∀ b, 171 ≤ b → b < 203 → pj_get G1 b = pj_get G b := fun b h1 h2 => j1.2.1.1 b (pj_nc h1 h2 rfl)
  have hR1 : pj_RI G1 := pj_RI_g g1 hR
  have hU1 : (pj_fi G1 171 30).toInt ≤ 15 := pj_UN_g g1 hU
  obtain ⟨v2, G2, q2, y2, rfl, i2, j2, -, e2⟩ := ct_250t G1 i1  
  have a2 : (pj_fi G1 171 16).toInt = (pj_fi G 171 16).toInt := by rw [pj_fi_g (g1 171 (by decide) (by decide))]
  have a3 : (pj_fi G2 2 1).toInt = (pj_fi G1 2 1).toInt := by rw [show pj_fi G2 2 1 = pj_fi G1 2 1 from j2.1 (2, 1) (by decide)]
  refine ⟨G2, 0, 0, ⟨i2, (pj_RI_k hR1 j2 rfl), (by have q9 : pj_fi G2 171 30 = pj_fi G1 171 30 := j2.1 (171, 30) (by decide); rw [q9]; exact hU1), ⟨by omega, fun j hj => absurd hj (by omega)⟩, mr_FR (mr_FX (mr_FG (mr_FC hF j1 rfl rfl) g1) j2 rfl rfl) j2 rfl, mr_Nk hN ((j2.1 (171, 7) (by decide)).trans (mr_gi (g1 171 (by decide) (by decide)))), mr_KR (mr_KX (mr_KG (mr_KC hK j1 rfl rfl) g1) j2 rfl rfl) j2 rfl, mr_En (mr_ER (mr_EC (mr_EG (mr_EC hE6 hI j1 rfl) i1 g1) i1 j2 rfl) i2 j2 rfl)⟩, by decide, by decide, fun r hr => ?_⟩
  refine pj_R_tz (M' := pj_cs25) rfl pj_cs25_s (G, 923, [(4, .int v4), (3, .ref 203), (2, .ref 171), (1, .ref 1), (0, .ref 0)], [.ref 1], mc, ms) 923 2 (fun _ => rfl) ?_
  refine pj_R_ca pj_lz_mon (vs := [.ref 1]) (S2 := [.int y1]) (pj_cs25_s _ _ rfl) (fun _ => rfl) ⟨Nat.le_of_ble_eq_true rfl, Nat.le_of_ble_eq_true rfl, pj_T_rcv hI rfl⟩ ⟨rfl, rfl, rfl⟩ (pj_E_lz (by decide) (by decide) q1) ?_
  show pj_R _ _ _ _ (G1, 926, [(4, .int v4), (3, .ref 203), (2, .ref 171), (1, .ref 1), (0, .ref 0)], [.int y1], mc, ms) _
  refine pj_R_tz (M' := pj_cs25) rfl pj_cs25_s (G1, 928, [(4, .int v4), (3, .ref 203), (2, .ref 171), (1, .ref 1), (0, .ref 0)], [.ref 171], mc, ms) 928 3 (fun _ => rfl) ?_
  refine pj_R_ca pj_lz_mon (vs := [.ref 171]) (S2 := [.int y2]) (pj_cs25_s _ _ rfl) (fun _ => rfl) ⟨Nat.le_of_ble_eq_true rfl, Nat.le_of_ble_eq_true rfl, pj_T_rcv i1 rfl⟩ ⟨rfl, rfl, rfl⟩ (pj_E_lz (by decide) (by decide) q2) ?_
  show pj_R _ _ _ _ (G2, 931, [(4, .int v4), (3, .ref 203), (2, .ref 171), (1, .ref 1), (0, .ref 0)], [.int y2], mc, ms) _
  refine pj_R_tz (M' := pj_cs25) rfl pj_cs25_s (G2, 1484, [(4, .int v4), (3, .ref 203), (2, .ref 171), (1, .ref 1), (0, .ref 0)], [], mc, ms) 1484 3 (fun _ => rfl) ?_
  exact hr
def pj_cs26 : pj_M := (pj_law.1, pj_law.2.1, 8, some .boolean, pj_law.2.2.2.2.1, [(935, .aload_n 1, 1, [], 0), (936, .aload_n 0, 1, [], 0), (937, .iload 4, 2, [], 0), (939, .iconst 1, 1, [], 0), (940, .iadd, 1, [], 0), (941, .iaload, 1, [], 0), (942, .invokevirtual 137, 3, [0, 2, 143, 11, 1089], 0), (945, .pop, 1, [], 0), (946, .aload_n 2, 1, [], 0), (947, .aload_n 0, 1, [], 0), (948, .iload 4, 2, [], 0), (950, .iconst 1, 1, [], 0), (951, .iadd, 1, [], 0), (952, .iaload, 1, [], 0), (953, .invokevirtual 140, 3, [0, 2, 253, 12, 1903], 0), (956, .pop, 1, [], 0), (957, .goto 527, 3, [1484], 0)])
set_option maxRecDepth 100000 in
theorem pj_cs26_ok : pj_cs26.2.2.2.2.2.all (fun q => decide (pj_find pj_law.2.2.2.2.2 q.1 = some q.2)) = true := by decide +kernel
theorem pj_cs26_s : ∀ pc q, pj_find pj_cs26.2.2.2.2.2 pc = some q → pj_find pj_law.2.2.2.2.2 pc = some q := fun pc q hq => of_decide_eq_true (List.all_eq_true.mp pj_cs26_ok (pc, q) (pj_find_s hq))
set_option maxRecDepth 100000 in
set_option maxHeartbeats 8000000 in
theorem lw_26 {k : Nat} {xs : Nat → Int32} (hk : k ≤ 2560) (G : pj_G) (v4 : Int32) (hG : pj_LI v4.toInt G) (h0 : 0 ≤ v4.toInt) (h5 : v4.toInt + 5 ≤ k) (mc ms : Nat) : ∃ (G' : pj_G) (dc ds : Nat), pj_LI (v4.toInt + 5) G' ∧ dc ≤ 1 ∧ ds ≤ 6 ∧ ∀ r, pj_R pj_lz (k + 1) xs pj_law (G', 1484, [(4, .int v4), (3, .ref 203), (2, .ref 171), (1, .ref 1), (0, .ref 0)], [], mc + dc, ms + ds) r → pj_R pj_lz (k + 1) xs pj_law (G, 935, [(4, .int v4), (3, .ref 203), (2, .ref 171), (1, .ref 1), (0, .ref 0)], [], mc, ms) r := by
  have ix1 : (v4 + Int32.ofInt 1).toInt = v4.toInt + 1 := pj_ix5 (by decide) h0 (by omega) (by decide) (by decide)
  have ix2 : (v4 + Int32.ofInt 2).toInt = v4.toInt + 2 := pj_ix5 (by decide) h0 (by omega) (by decide) (by decide)
  have ix3 : (v4 + Int32.ofInt 3).toInt = v4.toInt + 3 := pj_ix5 (by decide) h0 (by omega) (by decide) (by decide)
  have ix4 : (v4 + Int32.ofInt 4).toInt = v4.toInt + 4 := pj_ix5 (by decide) h0 (by omega) (by decide) (by decide)
  obtain ⟨hI, hR, hU, hT, hF, hN, hK, hE6⟩ := hG
  have hE1 := hT.1
  have hE2 := hT.2
  obtain ⟨v1, G1, q1, y1, rfl, i1, j1, -⟩ := ct_143 G hI (xs (v4 + Int32.ofInt 1).toNatClampNeg) 
  have g1 : ∀ b, 171 ≤ b → b < 203 → pj_get G1 b = pj_get G b := fun b h1 h2 => j1.2.1.1 b (pj_nc h1 h2 rfl)
  have hR1 : pj_RI G1 := pj_RI_g g1 hR
  have hU1 : (pj_fi G1 171 30).toInt ≤ 15 := pj_UN_g g1 hU
  obtain ⟨v2, G2, q2, y2, rfl, i2, j2, -⟩ := ct_253 G1 i1 (xs (v4 + Int32.ofInt 1).toNatClampNeg) 
  have a1 : (pj_fi G1 2 1).toInt = (pj_fi G 2 1).toInt := by rw [show pj_fi G1 2 1 = pj_fi G 2 1 from j1.1 (2, 1) (by decide)]
  have a2 : (pj_fi G1 171 16).toInt = (pj_fi G 171 16).toInt := by rw [pj_fi_g (g1 171 (by decide) (by decide))]
  have a3 : (pj_fi G2 2 1).toInt = (pj_fi G1 2 1).toInt := by rw [show pj_fi G2 2 1 = pj_fi G1 2 1 from j2.1 (2, 1) (by decide)]
  have a4 : (pj_fi G2 171 16).toInt = (pj_fi G1 171 16).toInt := by rw [show pj_fi G2 171 16 = pj_fi G1 171 16 from j2.1 (171, 16) (by decide)]
  refine ⟨G2, 0, 0, ⟨i2, (pj_RI_k hR1 j2 rfl), (by have q9 : pj_fi G2 171 30 = pj_fi G1 171 30 := j2.1 (171, 30) (by decide); rw [q9]; exact hU1), ⟨by omega, fun j hj => by rw [j2.2.2 3 (by decide) j, j2.2.2 180 (by decide) j, j1.2.2 3 (by decide) j, j1.2.2 180 (by decide) j]; exact hE2 j (by omega)⟩, mr_FR (mr_FX (mr_FG (mr_FC hF j1 rfl rfl) g1) j2 rfl rfl) j2 rfl, mr_Nk hN ((j2.1 (171, 7) (by decide)).trans (mr_gi (g1 171 (by decide) (by decide)))), mr_KR (mr_KX (mr_KG (mr_KC hK j1 rfl rfl) g1) j2 rfl rfl) j2 rfl, mr_En (mr_ER (mr_EC (mr_EG (mr_EC hE6 hI j1 rfl) i1 g1) i1 j2 rfl) i2 j2 rfl)⟩, by decide, by decide, fun r hr => ?_⟩
  refine pj_R_tz (M' := pj_cs26) rfl pj_cs26_s (G, 941, [(4, .int v4), (3, .ref 203), (2, .ref 171), (1, .ref 1), (0, .ref 0)], [.int (v4 + (Int32.ofInt 1)), .ref 0, .ref 1], mc, ms) 941 6 (fun _ => rfl) ?_
  refine pj_R_sl (pj_cs26_s _ _ rfl) (by omega) (by omega) ?_
  show pj_R _ _ _ _ (G, 942, [(4, .int v4), (3, .ref 203), (2, .ref 171), (1, .ref 1), (0, .ref 0)], [.int (xs (v4 + (Int32.ofInt 1)).toNatClampNeg), .ref 1], mc, ms) _
  refine pj_R_ca pj_lz_mon (vs := [.ref 1, .int (xs (v4 + (Int32.ofInt 1)).toNatClampNeg)]) (S2 := [.int y1]) (pj_cs26_s _ _ rfl) (fun _ => rfl) ⟨Nat.le_of_ble_eq_true rfl, Nat.le_of_ble_eq_true rfl, pj_T_rcv hI rfl⟩ ⟨rfl, rfl, rfl⟩ (pj_E_lz (by decide) (by decide) q1) ?_
  show pj_R _ _ _ _ (G1, 945, [(4, .int v4), (3, .ref 203), (2, .ref 171), (1, .ref 1), (0, .ref 0)], [.int y1], mc, ms) _
  refine pj_R_tz (M' := pj_cs26) rfl pj_cs26_s (G1, 952, [(4, .int v4), (3, .ref 203), (2, .ref 171), (1, .ref 1), (0, .ref 0)], [.int (v4 + (Int32.ofInt 1)), .ref 0, .ref 171], mc, ms) 952 7 (fun _ => rfl) ?_
  refine pj_R_sl (pj_cs26_s _ _ rfl) (by omega) (by omega) ?_
  show pj_R _ _ _ _ (G1, 953, [(4, .int v4), (3, .ref 203), (2, .ref 171), (1, .ref 1), (0, .ref 0)], [.int (xs (v4 + (Int32.ofInt 1)).toNatClampNeg), .ref 171], mc, ms) _
  refine pj_R_ca pj_lz_mon (vs := [.ref 171, .int (xs (v4 + (Int32.ofInt 1)).toNatClampNeg)]) (S2 := [.int y2]) (pj_cs26_s _ _ rfl) (fun _ => rfl) ⟨Nat.le_of_ble_eq_true rfl, Nat.le_of_ble_eq_true rfl, pj_T_rcv i1 rfl⟩ ⟨rfl, rfl, rfl⟩ (pj_E_lz (by decide) (by decide) q2) ?_
  show pj_R _ _ _ _ (G2, 956, [(4, .int v4), (3, .ref 203), (2, .ref 171), (1, .ref 1), (0, .ref 0)], [.int y2], mc, ms) _
  refine pj_R_tz (M' := pj_cs26) rfl pj_cs26_s (G2, 1484, [(4, .int v4), (3, .ref 203), (2, .ref 171), (1, .ref 1), (0, .ref 0)], [], mc, ms) 1484 3 (fun _ => rfl) ?_
  exact hr
def pj_cs27 : pj_M := (pj_law.1, pj_law.2.1, 8, some .boolean, pj_law.2.2.2.2.1, [(960, .aload_n 1, 1, [], 0), (961, .invokevirtual 141, 3, [0, 1, 144, 11, 1098], 0), (964, .pop, 1, [], 0), (965, .aload_n 2, 1, [], 0), (966, .invokevirtual 144, 3, [0, 1, 254, 12, 1916], 0), (969, .pop, 1, [], 0), (970, .goto 514, 3, [1484], 0)])
set_option maxRecDepth 100000 in
theorem pj_cs27_ok : pj_cs27.2.2.2.2.2.all (fun q => decide (pj_find pj_law.2.2.2.2.2 q.1 = some q.2)) = true := by decide +kernel
theorem pj_cs27_s : ∀ pc q, pj_find pj_cs27.2.2.2.2.2 pc = some q → pj_find pj_law.2.2.2.2.2 pc = some q := fun pc q hq => of_decide_eq_true (List.all_eq_true.mp pj_cs27_ok (pc, q) (pj_find_s hq))
set_option maxRecDepth 100000 in
set_option maxHeartbeats 8000000 in
theorem lw_27 {k : Nat} {xs : Nat → Int32} (hk : k ≤ 2560) (G : pj_G) (v4 : Int32) (hG : pj_LI v4.toInt G) (h0 : 0 ≤ v4.toInt) (h5 : v4.toInt + 5 ≤ k) (mc ms : Nat) : ∃ (G' : pj_G) (dc ds : Nat), pj_LI (v4.toInt + 5) G' ∧ dc ≤ 1 ∧ ds ≤ 6 ∧ ∀ r, pj_R pj_lz (k + 1) xs pj_law (G', 1484, [(4, .int v4), (3, .ref 203), (2, .ref 171), (1, .ref 1), (0, .ref 0)], [], mc + dc, ms + ds) r → pj_R pj_lz (k + 1) xs pj_law (G, 960, [(4, .int v4), (3, .ref 203), (2, .ref 171), (1, .ref 1), (0, .ref 0)], [], mc, ms) r := by
  have ix1 : (v4 + Int32.ofInt 1).toInt = v4.toInt + 1 := pj_ix5 (by decide) h0 (by omega) (by decide) (by decide)
  have ix2 : (v4 + Int32.ofInt 2).toInt = v4.toInt + 2 := pj_ix5 (by decide) h0 (by omega) (by decide) (by decide)
  have ix3 : (v4 + Int32.ofInt 3).toInt = v4.toInt + 3 := pj_ix5 (by decide) h0 (by omega) (by decide) (by decide)
  have ix4 : (v4 + Int32.ofInt 4).toInt = v4.toInt + 4 := pj_ix5 (by decide) h0 (by omega) (by decide) (by decide)
  obtain ⟨hI, hR, hU, hT, hF, hN, hK, hE6⟩ := hG
  have hE1 := hT.1
  have hE2 := hT.2
  obtain ⟨v1, G1, q1, y1, rfl, i1, j1, -⟩ := ct_144 G hI  
  have g1 : ∀ b, 171 ≤ b → b < 203 → pj_get G1 b = pj_get G b := fun b h1 h2 => j1.2.1.1 b (pj_nc h1 h2 rfl)
  have hR1 : pj_RI G1 := pj_RI_g g1 hR
  have hU1 : (pj_fi G1 171 30).toInt ≤ 15 := pj_UN_g g1 hU
  obtain ⟨v2, G2, q2, y2, rfl, i2, j2, -⟩ := ct_254 G1 i1  
  have a1 : (pj_fi G1 2 1).toInt = (pj_fi G 2 1).toInt := by rw [show pj_fi G1 2 1 = pj_fi G 2 1 from j1.1 (2, 1) (by decide)]
  have a2 : (pj_fi G1 171 16).toInt = (pj_fi G 171 16).toInt := by rw [pj_fi_g (g1 171 (by decide) (by decide))]
  have a3 : (pj_fi G2 2 1).toInt = (pj_fi G1 2 1).toInt := by rw [show pj_fi G2 2 1 = pj_fi G1 2 1 from j2.1 (2, 1) (by decide)]
  have a4 : (pj_fi G2 171 16).toInt = (pj_fi G1 171 16).toInt := by rw [show pj_fi G2 171 16 = pj_fi G1 171 16 from j2.1 (171, 16) (by decide)]
  refine ⟨G2, 0, 0, ⟨i2, (pj_RI_k hR1 j2 rfl), (by have q9 : pj_fi G2 171 30 = pj_fi G1 171 30 := j2.1 (171, 30) (by decide); rw [q9]; exact hU1), ⟨by omega, fun j hj => by rw [j2.2.2 3 (by decide) j, j2.2.2 180 (by decide) j, j1.2.2 3 (by decide) j, j1.2.2 180 (by decide) j]; exact hE2 j (by omega)⟩, mr_FR (mr_FX (mr_FG (mr_FC hF j1 rfl rfl) g1) j2 rfl rfl) j2 rfl, mr_Nk hN ((j2.1 (171, 7) (by decide)).trans (mr_gi (g1 171 (by decide) (by decide)))), mr_KR (mr_KX (mr_KG (mr_KC hK j1 rfl rfl) g1) j2 rfl rfl) j2 rfl, mr_En (mr_ER (mr_EC (mr_EG (mr_EC hE6 hI j1 rfl) i1 g1) i1 j2 rfl) i2 j2 rfl)⟩, by decide, by decide, fun r hr => ?_⟩
  refine pj_R_tz (M' := pj_cs27) rfl pj_cs27_s (G, 961, [(4, .int v4), (3, .ref 203), (2, .ref 171), (1, .ref 1), (0, .ref 0)], [.ref 1], mc, ms) 961 2 (fun _ => rfl) ?_
  refine pj_R_ca pj_lz_mon (vs := [.ref 1]) (S2 := [.int y1]) (pj_cs27_s _ _ rfl) (fun _ => rfl) ⟨Nat.le_of_ble_eq_true rfl, Nat.le_of_ble_eq_true rfl, pj_T_rcv hI rfl⟩ ⟨rfl, rfl, rfl⟩ (pj_E_lz (by decide) (by decide) q1) ?_
  show pj_R _ _ _ _ (G1, 964, [(4, .int v4), (3, .ref 203), (2, .ref 171), (1, .ref 1), (0, .ref 0)], [.int y1], mc, ms) _
  refine pj_R_tz (M' := pj_cs27) rfl pj_cs27_s (G1, 966, [(4, .int v4), (3, .ref 203), (2, .ref 171), (1, .ref 1), (0, .ref 0)], [.ref 171], mc, ms) 966 3 (fun _ => rfl) ?_
  refine pj_R_ca pj_lz_mon (vs := [.ref 171]) (S2 := [.int y2]) (pj_cs27_s _ _ rfl) (fun _ => rfl) ⟨Nat.le_of_ble_eq_true rfl, Nat.le_of_ble_eq_true rfl, pj_T_rcv i1 rfl⟩ ⟨rfl, rfl, rfl⟩ (pj_E_lz (by decide) (by decide) q2) ?_
  show pj_R _ _ _ _ (G2, 969, [(4, .int v4), (3, .ref 203), (2, .ref 171), (1, .ref 1), (0, .ref 0)], [.int y2], mc, ms) _
  refine pj_R_tz (M' := pj_cs27) rfl pj_cs27_s (G2, 1484, [(4, .int v4), (3, .ref 203), (2, .ref 171), (1, .ref 1), (0, .ref 0)], [], mc, ms) 1484 3 (fun _ => rfl) ?_
  exact hr
def pj_cs28 : pj_M := (pj_law.1, pj_law.2.1, 8, some .boolean, pj_law.2.2.2.2.1, [(973, .aload_n 1, 1, [], 0), (974, .aload_n 0, 1, [], 0), (975, .iload 4, 2, [], 0), (977, .iconst 1, 1, [], 0), (978, .iadd, 1, [], 0), (979, .iaload, 1, [], 0), (980, .invokevirtual 145, 3, [0, 2, 145, 11, 1103], 0), (983, .pop, 1, [], 0), (984, .aload_n 2, 1, [], 0), (985, .aload_n 0, 1, [], 0), (986, .iload 4, 2, [], 0), (988, .iconst 1, 1, [], 0), (989, .iadd, 1, [], 0), (990, .iaload, 1, [], 0), (991, .invokevirtual 148, 3, [0, 2, 255, 12, 1921], 0), (994, .pop, 1, [], 0), (995, .goto 489, 3, [1484], 0)])
set_option maxRecDepth 100000 in
theorem pj_cs28_ok : pj_cs28.2.2.2.2.2.all (fun q => decide (pj_find pj_law.2.2.2.2.2 q.1 = some q.2)) = true := by decide +kernel
theorem pj_cs28_s : ∀ pc q, pj_find pj_cs28.2.2.2.2.2 pc = some q → pj_find pj_law.2.2.2.2.2 pc = some q := fun pc q hq => of_decide_eq_true (List.all_eq_true.mp pj_cs28_ok (pc, q) (pj_find_s hq))
set_option maxRecDepth 100000 in
set_option maxHeartbeats 8000000 in
theorem lw_28 {k : Nat} {xs : Nat → Int32} (hk : k ≤ 2560) (G : pj_G) (v4 : Int32) (hG : pj_LI v4.toInt G) (h0 : 0 ≤ v4.toInt) (h5 : v4.toInt + 5 ≤ k) (mc ms : Nat) : ∃ (G' : pj_G) (dc ds : Nat), pj_LI (v4.toInt + 5) G' ∧ dc ≤ 1 ∧ ds ≤ 6 ∧ ∀ r, pj_R pj_lz (k + 1) xs pj_law (G', 1484, [(4, .int v4), (3, .ref 203), (2, .ref 171), (1, .ref 1), (0, .ref 0)], [], mc + dc, ms + ds) r → pj_R pj_lz (k + 1) xs pj_law (G, 973, [(4, .int v4), (3, .ref 203), (2, .ref 171), (1, .ref 1), (0, .ref 0)], [], mc, ms) r := by
  have ix1 : (v4 + Int32.ofInt 1).toInt = v4.toInt + 1 := pj_ix5 (by decide) h0 (by omega) (by decide) (by decide)
  have ix2 : (v4 + Int32.ofInt 2).toInt = v4.toInt + 2 := pj_ix5 (by decide) h0 (by omega) (by decide) (by decide)
  have ix3 : (v4 + Int32.ofInt 3).toInt = v4.toInt + 3 := pj_ix5 (by decide) h0 (by omega) (by decide) (by decide)
  have ix4 : (v4 + Int32.ofInt 4).toInt = v4.toInt + 4 := pj_ix5 (by decide) h0 (by omega) (by decide) (by decide)
  obtain ⟨hI, hR, hU, hT, hF, hN, hK, hE6⟩ := hG
  have hE1 := hT.1
  have hE2 := hT.2
  obtain ⟨v1, G1, q1, y1, rfl, i1, j1, -⟩ := ct_145 G hI (xs (v4 + Int32.ofInt 1).toNatClampNeg) 
  have g1 : ∀ b, 171 ≤ b → b < 203 → pj_get G1 b = pj_get G b := fun b h1 h2 => j1.2.1.1 b (pj_nc h1 h2 rfl)
  have hR1 : pj_RI G1 := pj_RI_g g1 hR
  have hU1 : (pj_fi G1 171 30).toInt ≤ 15 := pj_UN_g g1 hU
  obtain ⟨v2, G2, q2, y2, rfl, i2, j2, -⟩ := ct_255 G1 i1 (xs (v4 + Int32.ofInt 1).toNatClampNeg) 
  have a1 : (pj_fi G1 2 1).toInt = (pj_fi G 2 1).toInt := by rw [show pj_fi G1 2 1 = pj_fi G 2 1 from j1.1 (2, 1) (by decide)]
  have a2 : (pj_fi G1 171 16).toInt = (pj_fi G 171 16).toInt := by rw [pj_fi_g (g1 171 (by decide) (by decide))]
  have a3 : (pj_fi G2 2 1).toInt = (pj_fi G1 2 1).toInt := by rw [show pj_fi G2 2 1 = pj_fi G1 2 1 from j2.1 (2, 1) (by decide)]
  have a4 : (pj_fi G2 171 16).toInt = (pj_fi G1 171 16).toInt := by rw [show pj_fi G2 171 16 = pj_fi G1 171 16 from j2.1 (171, 16) (by decide)]
  refine ⟨G2, 0, 0, ⟨i2, (pj_RI_k hR1 j2 rfl), (by have q9 : pj_fi G2 171 30 = pj_fi G1 171 30 := j2.1 (171, 30) (by decide); rw [q9]; exact hU1), ⟨by omega, fun j hj => by rw [j2.2.2 3 (by decide) j, j2.2.2 180 (by decide) j, j1.2.2 3 (by decide) j, j1.2.2 180 (by decide) j]; exact hE2 j (by omega)⟩, mr_FR (mr_FX (mr_FG (mr_FC hF j1 rfl rfl) g1) j2 rfl rfl) j2 rfl, mr_Nk hN ((j2.1 (171, 7) (by decide)).trans (mr_gi (g1 171 (by decide) (by decide)))), mr_KR (mr_KX (mr_KG (mr_KC hK j1 rfl rfl) g1) j2 rfl rfl) j2 rfl, mr_En (mr_ER (mr_EC (mr_EG (mr_EC hE6 hI j1 rfl) i1 g1) i1 j2 rfl) i2 j2 rfl)⟩, by decide, by decide, fun r hr => ?_⟩
  refine pj_R_tz (M' := pj_cs28) rfl pj_cs28_s (G, 979, [(4, .int v4), (3, .ref 203), (2, .ref 171), (1, .ref 1), (0, .ref 0)], [.int (v4 + (Int32.ofInt 1)), .ref 0, .ref 1], mc, ms) 979 6 (fun _ => rfl) ?_
  refine pj_R_sl (pj_cs28_s _ _ rfl) (by omega) (by omega) ?_
  show pj_R _ _ _ _ (G, 980, [(4, .int v4), (3, .ref 203), (2, .ref 171), (1, .ref 1), (0, .ref 0)], [.int (xs (v4 + (Int32.ofInt 1)).toNatClampNeg), .ref 1], mc, ms) _
  refine pj_R_ca pj_lz_mon (vs := [.ref 1, .int (xs (v4 + (Int32.ofInt 1)).toNatClampNeg)]) (S2 := [.int y1]) (pj_cs28_s _ _ rfl) (fun _ => rfl) ⟨Nat.le_of_ble_eq_true rfl, Nat.le_of_ble_eq_true rfl, pj_T_rcv hI rfl⟩ ⟨rfl, rfl, rfl⟩ (pj_E_lz (by decide) (by decide) q1) ?_
  show pj_R _ _ _ _ (G1, 983, [(4, .int v4), (3, .ref 203), (2, .ref 171), (1, .ref 1), (0, .ref 0)], [.int y1], mc, ms) _
  refine pj_R_tz (M' := pj_cs28) rfl pj_cs28_s (G1, 990, [(4, .int v4), (3, .ref 203), (2, .ref 171), (1, .ref 1), (0, .ref 0)], [.int (v4 + (Int32.ofInt 1)), .ref 0, .ref 171], mc, ms) 990 7 (fun _ => rfl) ?_
  refine pj_R_sl (pj_cs28_s _ _ rfl) (by omega) (by omega) ?_
  show pj_R _ _ _ _ (G1, 991, [(4, .int v4), (3, .ref 203), (2, .ref 171), (1, .ref 1), (0, .ref 0)], [.int (xs (v4 + (Int32.ofInt 1)).toNatClampNeg), .ref 171], mc, ms) _
  refine pj_R_ca pj_lz_mon (vs := [.ref 171, .int (xs (v4 + (Int32.ofInt 1)).toNatClampNeg)]) (S2 := [.int y2]) (pj_cs28_s _ _ rfl) (fun _ => rfl) ⟨Nat.le_of_ble_eq_true rfl, Nat.le_of_ble_eq_true rfl, pj_T_rcv i1 rfl⟩ ⟨rfl, rfl, rfl⟩ (pj_E_lz (by decide) (by decide) q2) ?_
  show pj_R _ _ _ _ (G2, 994, [(4, .int v4), (3, .ref 203), (2, .ref 171), (1, .ref 1), (0, .ref 0)], [.int y2], mc, ms) _
  refine pj_R_tz (M' := pj_cs28) rfl pj_cs28_s (G2, 1484, [(4, .int v4), (3, .ref 203), (2, .ref 171), (1, .ref 1), (0, .ref 0)], [], mc, ms) 1484 3 (fun _ => rfl) ?_
  exact hr
def pj_cs29 : pj_M := (pj_law.1, pj_law.2.1, 8, some .boolean, pj_law.2.2.2.2.1, [(998, .aload_n 1, 1, [], 0), (999, .aload_n 0, 1, [], 0), (1000, .iload 4, 2, [], 0), (1002, .iconst 1, 1, [], 0), (1003, .iadd, 1, [], 0), (1004, .iaload, 1, [], 0), (1005, .aload_n 0, 1, [], 0), (1006, .iload 4, 2, [], 0), (1008, .iconst 2, 1, [], 0), (1009, .iadd, 1, [], 0), (1010, .iaload, 1, [], 0), (1011, .aload_n 0, 1, [], 0), (1012, .iload 4, 2, [], 0), (1014, .iconst 3, 1, [], 0), (1015, .iadd, 1, [], 0), (1016, .iaload, 1, [], 0), (1017, .aload_n 0, 1, [], 0), (1018, .iload 4, 2, [], 0), (1020, .iconst 4, 1, [], 0), (1021, .iadd, 1, [], 0), (1022, .iaload, 1, [], 0), (1023, .invokevirtual 149, 3, [0, 5, 146, 11, 1109], 0), (1026, .pop, 1, [], 0), (1027, .aload_n 2, 1, [], 0), (1028, .aload_n 0, 1, [], 0), (1029, .iload 4, 2, [], 0), (1031, .iconst 1, 1, [], 0), (1032, .iadd, 1, [], 0), (1033, .iaload, 1, [], 0), (1034, .aload_n 0, 1, [], 0), (1035, .iload 4, 2, [], 0), (1037, .iconst 2, 1, [], 0), (1038, .iadd, 1, [], 0), (1039, .iaload, 1, [], 0), (1040, .aload_n 0, 1, [], 0), (1041, .iload 4, 2, [], 0), (1043, .iconst 3, 1, [], 0), (1044, .iadd, 1, [], 0), (1045, .iaload, 1, [], 0), (1046, .aload_n 0, 1, [], 0), (1047, .iload 4, 2, [], 0), (1049, .iconst 4, 1, [], 0), (1050, .iadd, 1, [], 0), (1051, .iaload, 1, [], 0), (1052, .invokevirtual 152, 3, [0, 5, 260, 12, 1925], 0), (1055, .pop, 1, [], 0), (1056, .goto 428, 3, [1484], 0)])
set_option maxRecDepth 100000 in
theorem pj_cs29_ok : pj_cs29.2.2.2.2.2.all (fun q => decide (pj_find pj_law.2.2.2.2.2 q.1 = some q.2)) = true := by decide +kernel
theorem pj_cs29_s : ∀ pc q, pj_find pj_cs29.2.2.2.2.2 pc = some q → pj_find pj_law.2.2.2.2.2 pc = some q := fun pc q hq => of_decide_eq_true (List.all_eq_true.mp pj_cs29_ok (pc, q) (pj_find_s hq))
set_option maxRecDepth 100000 in
set_option maxHeartbeats 8000000 in
theorem lw_29 {k : Nat} {xs : Nat → Int32} (hk : k ≤ 2560) (G : pj_G) (v4 : Int32) (hG : pj_LI v4.toInt G) (h0 : 0 ≤ v4.toInt) (h5 : v4.toInt + 5 ≤ k) (mc ms : Nat) : ∃ (G' : pj_G) (dc ds : Nat), pj_LI (v4.toInt + 5) G' ∧ dc ≤ 1 ∧ ds ≤ 6 ∧ ∀ r, pj_R pj_lz (k + 1) xs pj_law (G', 1484, [(4, .int v4), (3, .ref 203), (2, .ref 171), (1, .ref 1), (0, .ref 0)], [], mc + dc, ms + ds) r → pj_R pj_lz (k + 1) xs pj_law (G, 998, [(4, .int v4), (3, .ref 203), (2, .ref 171), (1, .ref 1), (0, .ref 0)], [], mc, ms) r := by
  have ix1 : (v4 + Int32.ofInt 1).toInt = v4.toInt + 1 := pj_ix5 (by decide) h0 (by omega) (by decide) (by decide)
  have ix2 : (v4 + Int32.ofInt 2).toInt = v4.toInt + 2 := pj_ix5 (by decide) h0 (by omega) (by decide) (by decide)
  have ix3 : (v4 + Int32.ofInt 3).toInt = v4.toInt + 3 := pj_ix5 (by decide) h0 (by omega) (by decide) (by decide)
  have ix4 : (v4 + Int32.ofInt 4).toInt = v4.toInt + 4 := pj_ix5 (by decide) h0 (by omega) (by decide) (by decide)
  obtain ⟨hI, hR, hU, hT, hF, hN, hK, hE6⟩ := hG
  have hE1 := hT.1
  have hE2 := hT.2
  obtain ⟨v1, G1, q1, y1, rfl, i1, j1, -⟩ := ct_146 G hI (xs (v4 + Int32.ofInt 1).toNatClampNeg) (xs (v4 + Int32.ofInt 2).toNatClampNeg) (xs (v4 + Int32.ofInt 3).toNatClampNeg) (xs (v4 + Int32.ofInt 4).toNatClampNeg) 
  have g1 : ∀ b, 171 ≤ b → b < 203 → pj_get G1 b = pj_get G b := fun b h1 h2 => j1.2.1.1 b (pj_nc h1 h2 rfl)
  have hR1 : pj_RI G1 := pj_RI_g g1 hR
  have hU1 : (pj_fi G1 171 30).toInt ≤ 15 := pj_UN_g g1 hU
  obtain ⟨v2, G2, q2, y2, rfl, i2, j2, -⟩ := ct_260 G1 i1 (xs (v4 + Int32.ofInt 1).toNatClampNeg) (xs (v4 + Int32.ofInt 2).toNatClampNeg) (xs (v4 + Int32.ofInt 3).toNatClampNeg) (xs (v4 + Int32.ofInt 4).toNatClampNeg) 
  have a1 : (pj_fi G1 2 1).toInt = (pj_fi G 2 1).toInt := by rw [show pj_fi G1 2 1 = pj_fi G 2 1 from j1.1 (2, 1) (by decide)]
  have a2 : (pj_fi G1 171 16).toInt = (pj_fi G 171 16).toInt := by rw [pj_fi_g (g1 171 (by decide) (by decide))]
  have a3 : (pj_fi G2 2 1).toInt = (pj_fi G1 2 1).toInt := by rw [show pj_fi G2 2 1 = pj_fi G1 2 1 from j2.1 (2, 1) (by decide)]
  have a4 : (pj_fi G2 171 16).toInt = (pj_fi G1 171 16).toInt := by rw [show pj_fi G2 171 16 = pj_fi G1 171 16 from j2.1 (171, 16) (by decide)]
  refine ⟨G2, 0, 0, ⟨i2, (pj_RI_k hR1 j2 rfl), (by have q9 : pj_fi G2 171 30 = pj_fi G1 171 30 := j2.1 (171, 30) (by decide); rw [q9]; exact hU1), ⟨by omega, fun j hj => by rw [j2.2.2 3 (by decide) j, j2.2.2 180 (by decide) j, j1.2.2 3 (by decide) j, j1.2.2 180 (by decide) j]; exact hE2 j (by omega)⟩, mr_FR (mr_FX (mr_FG (mr_FC hF j1 rfl rfl) g1) j2 rfl rfl) j2 rfl, mr_Nk hN ((j2.1 (171, 7) (by decide)).trans (mr_gi (g1 171 (by decide) (by decide)))), mr_KR (mr_KX (mr_KG (mr_KC hK j1 rfl rfl) g1) j2 rfl rfl) j2 rfl, mr_En (mr_ER (mr_EC (mr_EG (mr_EC hE6 hI j1 rfl) i1 g1) i1 j2 rfl) i2 j2 rfl)⟩, by decide, by decide, fun r hr => ?_⟩
  refine pj_R_tz (M' := pj_cs29) rfl pj_cs29_s (G, 1004, [(4, .int v4), (3, .ref 203), (2, .ref 171), (1, .ref 1), (0, .ref 0)], [.int (v4 + (Int32.ofInt 1)), .ref 0, .ref 1], mc, ms) 1004 6 (fun _ => rfl) ?_
  refine pj_R_sl (pj_cs29_s _ _ rfl) (by omega) (by omega) ?_
  show pj_R _ _ _ _ (G, 1005, [(4, .int v4), (3, .ref 203), (2, .ref 171), (1, .ref 1), (0, .ref 0)], [.int (xs (v4 + (Int32.ofInt 1)).toNatClampNeg), .ref 1], mc, ms) _
  refine pj_R_tz (M' := pj_cs29) rfl pj_cs29_s (G, 1010, [(4, .int v4), (3, .ref 203), (2, .ref 171), (1, .ref 1), (0, .ref 0)], [.int (v4 + (Int32.ofInt 2)), .ref 0, .int (xs (v4 + (Int32.ofInt 1)).toNatClampNeg), .ref 1], mc, ms) 1010 5 (fun _ => rfl) ?_
  refine pj_R_sl (pj_cs29_s _ _ rfl) (by omega) (by omega) ?_
  show pj_R _ _ _ _ (G, 1011, [(4, .int v4), (3, .ref 203), (2, .ref 171), (1, .ref 1), (0, .ref 0)], [.int (xs (v4 + (Int32.ofInt 2)).toNatClampNeg), .int (xs (v4 + (Int32.ofInt 1)).toNatClampNeg), .ref 1], mc, ms) _
  refine pj_R_tz (M' := pj_cs29) rfl pj_cs29_s (G, 1016, [(4, .int v4), (3, .ref 203), (2, .ref 171), (1, .ref 1), (0, .ref 0)], [.int (v4 + (Int32.ofInt 3)), .ref 0, .int (xs (v4 + (Int32.ofInt 2)).toNatClampNeg), .int (xs (v4 + (Int32.ofInt 1)).toNatClampNeg), .ref 1], mc, ms) 1016 5 (fun _ => rfl) ?_
  refine pj_R_sl (pj_cs29_s _ _ rfl) (by omega) (by omega) ?_
  show pj_R _ _ _ _ (G, 1017, [(4, .int v4), (3, .ref 203), (2, .ref 171), (1, .ref 1), (0, .ref 0)], [.int (xs (v4 + (Int32.ofInt 3)).toNatClampNeg), .int (xs (v4 + (Int32.ofInt 2)).toNatClampNeg), .int (xs (v4 + (Int32.ofInt 1)).toNatClampNeg), .ref 1], mc, ms) _
  refine pj_R_tz (M' := pj_cs29) rfl pj_cs29_s (G, 1022, [(4, .int v4), (3, .ref 203), (2, .ref 171), (1, .ref 1), (0, .ref 0)], [.int (v4 + (Int32.ofInt 4)), .ref 0, .int (xs (v4 + (Int32.ofInt 3)).toNatClampNeg), .int (xs (v4 + (Int32.ofInt 2)).toNatClampNeg), .int (xs (v4 + (Int32.ofInt 1)).toNatClampNeg), .ref 1], mc, ms) 1022 5 (fun _ => rfl) ?_
  refine pj_R_sl (pj_cs29_s _ _ rfl) (by omega) (by omega) ?_
  show pj_R _ _ _ _ (G, 1023, [(4, .int v4), (3, .ref 203), (2, .ref 171), (1, .ref 1), (0, .ref 0)], [.int (xs (v4 + (Int32.ofInt 4)).toNatClampNeg), .int (xs (v4 + (Int32.ofInt 3)).toNatClampNeg), .int (xs (v4 + (Int32.ofInt 2)).toNatClampNeg), .int (xs (v4 + (Int32.ofInt 1)).toNatClampNeg), .ref 1], mc, ms) _
  refine pj_R_ca pj_lz_mon (vs := [.ref 1, .int (xs (v4 + (Int32.ofInt 1)).toNatClampNeg), .int (xs (v4 + (Int32.ofInt 2)).toNatClampNeg), .int (xs (v4 + (Int32.ofInt 3)).toNatClampNeg), .int (xs (v4 + (Int32.ofInt 4)).toNatClampNeg)]) (S2 := [.int y1]) (pj_cs29_s _ _ rfl) (fun _ => rfl) ⟨Nat.le_of_ble_eq_true rfl, Nat.le_of_ble_eq_true rfl, pj_T_rcv hI rfl⟩ ⟨rfl, rfl, rfl⟩ (pj_E_lz (by decide) (by decide) q1) ?_
  show pj_R _ _ _ _ (G1, 1026, [(4, .int v4), (3, .ref 203), (2, .ref 171), (1, .ref 1), (0, .ref 0)], [.int y1], mc, ms) _
  refine pj_R_tz (M' := pj_cs29) rfl pj_cs29_s (G1, 1033, [(4, .int v4), (3, .ref 203), (2, .ref 171), (1, .ref 1), (0, .ref 0)], [.int (v4 + (Int32.ofInt 1)), .ref 0, .ref 171], mc, ms) 1033 7 (fun _ => rfl) ?_
  refine pj_R_sl (pj_cs29_s _ _ rfl) (by omega) (by omega) ?_
  show pj_R _ _ _ _ (G1, 1034, [(4, .int v4), (3, .ref 203), (2, .ref 171), (1, .ref 1), (0, .ref 0)], [.int (xs (v4 + (Int32.ofInt 1)).toNatClampNeg), .ref 171], mc, ms) _
  refine pj_R_tz (M' := pj_cs29) rfl pj_cs29_s (G1, 1039, [(4, .int v4), (3, .ref 203), (2, .ref 171), (1, .ref 1), (0, .ref 0)], [.int (v4 + (Int32.ofInt 2)), .ref 0, .int (xs (v4 + (Int32.ofInt 1)).toNatClampNeg), .ref 171], mc, ms) 1039 5 (fun _ => rfl) ?_
  refine pj_R_sl (pj_cs29_s _ _ rfl) (by omega) (by omega) ?_
  show pj_R _ _ _ _ (G1, 1040, [(4, .int v4), (3, .ref 203), (2, .ref 171), (1, .ref 1), (0, .ref 0)], [.int (xs (v4 + (Int32.ofInt 2)).toNatClampNeg), .int (xs (v4 + (Int32.ofInt 1)).toNatClampNeg), .ref 171], mc, ms) _
  refine pj_R_tz (M' := pj_cs29) rfl pj_cs29_s (G1, 1045, [(4, .int v4), (3, .ref 203), (2, .ref 171), (1, .ref 1), (0, .ref 0)], [.int (v4 + (Int32.ofInt 3)), .ref 0, .int (xs (v4 + (Int32.ofInt 2)).toNatClampNeg), .int (xs (v4 + (Int32.ofInt 1)).toNatClampNeg), .ref 171], mc, ms) 1045 5 (fun _ => rfl) ?_
  refine pj_R_sl (pj_cs29_s _ _ rfl) (by omega) (by omega) ?_
  show pj_R _ _ _ _ (G1, 1046, [(4, .int v4), (3, .ref 203), (2, .ref 171), (1, .ref 1), (0, .ref 0)], [.int (xs (v4 + (Int32.ofInt 3)).toNatClampNeg), .int (xs (v4 + (Int32.ofInt 2)).toNatClampNeg), .int (xs (v4 + (Int32.ofInt 1)).toNatClampNeg), .ref 171], mc, ms) _
  refine pj_R_tz (M' := pj_cs29) rfl pj_cs29_s (G1, 1051, [(4, .int v4), (3, .ref 203), (2, .ref 171), (1, .ref 1), (0, .ref 0)], [.int (v4 + (Int32.ofInt 4)), .ref 0, .int (xs (v4 + (Int32.ofInt 3)).toNatClampNeg), .int (xs (v4 + (Int32.ofInt 2)).toNatClampNeg), .int (xs (v4 + (Int32.ofInt 1)).toNatClampNeg), .ref 171], mc, ms) 1051 5 (fun _ => rfl) ?_
  refine pj_R_sl (pj_cs29_s _ _ rfl) (by omega) (by omega) ?_
  show pj_R _ _ _ _ (G1, 1052, [(4, .int v4), (3, .ref 203), (2, .ref 171), (1, .ref 1), (0, .ref 0)], [.int (xs (v4 + (Int32.ofInt 4)).toNatClampNeg), .int (xs (v4 + (Int32.ofInt 3)).toNatClampNeg), .int (xs (v4 + (Int32.ofInt 2)).toNatClampNeg), .int (xs (v4 + (Int32.ofInt 1)).toNatClampNeg), .ref 171], mc, ms) _
  refine pj_R_ca pj_lz_mon (vs := [.ref 171, .int (xs (v4 + (Int32.ofInt 1)).toNatClampNeg), .int (xs (v4 + (Int32.ofInt 2)).toNatClampNeg), .int (xs (v4 + (Int32.ofInt 3)).toNatClampNeg), .int (xs (v4 + (Int32.ofInt 4)).toNatClampNeg)]) (S2 := [.int y2]) (pj_cs29_s _ _ rfl) (fun _ => rfl) ⟨Nat.le_of_ble_eq_true rfl, Nat.le_of_ble_eq_true rfl, pj_T_rcv i1 rfl⟩ ⟨rfl, rfl, rfl⟩ (pj_E_lz (by decide) (by decide) q2) ?_
  show pj_R _ _ _ _ (G2, 1055, [(4, .int v4), (3, .ref 203), (2, .ref 171), (1, .ref 1), (0, .ref 0)], [.int y2], mc, ms) _
  refine pj_R_tz (M' := pj_cs29) rfl pj_cs29_s (G2, 1484, [(4, .int v4), (3, .ref 203), (2, .ref 171), (1, .ref 1), (0, .ref 0)], [], mc, ms) 1484 3 (fun _ => rfl) ?_
  exact hr
def pj_cs30 : pj_M := (pj_law.1, pj_law.2.1, 8, some .boolean, pj_law.2.2.2.2.1, [(1059, .aload_n 1, 1, [], 0), (1060, .aload_n 0, 1, [], 0), (1061, .iload 4, 2, [], 0), (1063, .iconst 1, 1, [], 0), (1064, .iadd, 1, [], 0), (1065, .iaload, 1, [], 0), (1066, .aload_n 0, 1, [], 0), (1067, .iload 4, 2, [], 0), (1069, .iconst 2, 1, [], 0), (1070, .iadd, 1, [], 0), (1071, .iaload, 1, [], 0), (1072, .aload_n 0, 1, [], 0), (1073, .iload 4, 2, [], 0), (1075, .iconst 3, 1, [], 0), (1076, .iadd, 1, [], 0), (1077, .iaload, 1, [], 0), (1078, .invokevirtual 153, 3, [0, 4, 147, 11, 1136], 0), (1081, .pop, 1, [], 0), (1082, .aload_n 2, 1, [], 0), (1083, .aload_n 0, 1, [], 0), (1084, .iload 4, 2, [], 0), (1086, .iconst 1, 1, [], 0), (1087, .iadd, 1, [], 0), (1088, .iaload, 1, [], 0), (1089, .aload_n 0, 1, [], 0), (1090, .iload 4, 2, [], 0), (1092, .iconst 2, 1, [], 0), (1093, .iadd, 1, [], 0), (1094, .iaload, 1, [], 0), (1095, .aload_n 0, 1, [], 0), (1096, .iload 4, 2, [], 0), (1098, .iconst 3, 1, [], 0), (1099, .iadd, 1, [], 0), (1100, .iaload, 1, [], 0), (1101, .invokevirtual 157, 3, [0, 4, 261, 12, 1950], 0), (1104, .pop, 1, [], 0), (1105, .goto 379, 3, [1484], 0)])
set_option maxRecDepth 100000 in
theorem pj_cs30_ok : pj_cs30.2.2.2.2.2.all (fun q => decide (pj_find pj_law.2.2.2.2.2 q.1 = some q.2)) = true := by decide +kernel
theorem pj_cs30_s : ∀ pc q, pj_find pj_cs30.2.2.2.2.2 pc = some q → pj_find pj_law.2.2.2.2.2 pc = some q := fun pc q hq => of_decide_eq_true (List.all_eq_true.mp pj_cs30_ok (pc, q) (pj_find_s hq))
set_option maxRecDepth 100000 in
set_option maxHeartbeats 8000000 in
theorem lw_30 {k : Nat} {xs : Nat → Int32} (hk : k ≤ 2560) (G : pj_G) (v4 : Int32) (hG : pj_LI v4.toInt G) (h0 : 0 ≤ v4.toInt) (h5 : v4.toInt + 5 ≤ k) (mc ms : Nat) : ∃ (G' : pj_G) (dc ds : Nat), pj_LI (v4.toInt + 5) G' ∧ dc ≤ 1 ∧ ds ≤ 6 ∧ ∀ r, pj_R pj_lz (k + 1) xs pj_law (G', 1484, [(4, .int v4), (3, .ref 203), (2, .ref 171), (1, .ref 1), (0, .ref 0)], [], mc + dc, ms + ds) r → pj_R pj_lz (k + 1) xs pj_law (G, 1059, [(4, .int v4), (3, .ref 203), (2, .ref 171), (1, .ref 1), (0, .ref 0)], [], mc, ms) r := by
  have ix1 : (v4 + Int32.ofInt 1).toInt = v4.toInt + 1 := pj_ix5 (by decide) h0 (by omega) (by decide) (by decide)
  have ix2 : (v4 + Int32.ofInt 2).toInt = v4.toInt + 2 := pj_ix5 (by decide) h0 (by omega) (by decide) (by decide)
  have ix3 : (v4 + Int32.ofInt 3).toInt = v4.toInt + 3 := pj_ix5 (by decide) h0 (by omega) (by decide) (by decide)
  have ix4 : (v4 + Int32.ofInt 4).toInt = v4.toInt + 4 := pj_ix5 (by decide) h0 (by omega) (by decide) (by decide)
  obtain ⟨hI, hR, hU, hT, hF, hN, hK, hE6⟩ := hG
  have hE1 := hT.1
  have hE2 := hT.2
  obtain ⟨v1, G1, q1, y1, rfl, i1, j1, -⟩ := ct_147 G hI (xs (v4 + Int32.ofInt 1).toNatClampNeg) (xs (v4 + Int32.ofInt 2).toNatClampNeg) (xs (v4 + Int32.ofInt 3).toNatClampNeg) 
  have g1 : ∀ b, 171 ≤ b → b < 203 → pj_get G1 b = pj_get G b := fun b h1 h2 => j1.2.1.1 b (pj_nc h1 h2 rfl)
  have hR1 : pj_RI G1 := pj_RI_g g1 hR
  have hU1 : (pj_fi G1 171 30).toInt ≤ 15 := pj_UN_g g1 hU
  obtain ⟨v2, G2, q2, y2, rfl, i2, j2, -⟩ := ct_261 G1 i1 (xs (v4 + Int32.ofInt 1).toNatClampNeg) (xs (v4 + Int32.ofInt 2).toNatClampNeg) (xs (v4 + Int32.ofInt 3).toNatClampNeg) 
  have a1 : (pj_fi G1 2 1).toInt = (pj_fi G 2 1).toInt := by rw [show pj_fi G1 2 1 = pj_fi G 2 1 from j1.1 (2, 1) (by decide)]
  have a2 : (pj_fi G1 171 16).toInt = (pj_fi G 171 16).toInt := by rw [pj_fi_g (g1 171 (by decide) (by decide))]
  have a3 : (pj_fi G2 2 1).toInt = (pj_fi G1 2 1).toInt := by rw [show pj_fi G2 2 1 = pj_fi G1 2 1 from j2.1 (2, 1) (by decide)]
  have a4 : (pj_fi G2 171 16).toInt = (pj_fi G1 171 16).toInt := by rw [show pj_fi G2 171 16 = pj_fi G1 171 16 from j2.1 (171, 16) (by decide)]
  refine ⟨G2, 0, 0, ⟨i2, (pj_RI_k hR1 j2 rfl), (by have q9 : pj_fi G2 171 30 = pj_fi G1 171 30 := j2.1 (171, 30) (by decide); rw [q9]; exact hU1), ⟨by omega, fun j hj => by rw [j2.2.2 3 (by decide) j, j2.2.2 180 (by decide) j, j1.2.2 3 (by decide) j, j1.2.2 180 (by decide) j]; exact hE2 j (by omega)⟩, mr_FR (mr_FX (mr_FG (mr_FC hF j1 rfl rfl) g1) j2 rfl rfl) j2 rfl, mr_Nk hN ((j2.1 (171, 7) (by decide)).trans (mr_gi (g1 171 (by decide) (by decide)))), mr_KR (mr_KX (mr_KG (mr_KC hK j1 rfl rfl) g1) j2 rfl rfl) j2 rfl, mr_En (mr_ER (mr_EC (mr_EG (mr_EC hE6 hI j1 rfl) i1 g1) i1 j2 rfl) i2 j2 rfl)⟩, by decide, by decide, fun r hr => ?_⟩
  refine pj_R_tz (M' := pj_cs30) rfl pj_cs30_s (G, 1065, [(4, .int v4), (3, .ref 203), (2, .ref 171), (1, .ref 1), (0, .ref 0)], [.int (v4 + (Int32.ofInt 1)), .ref 0, .ref 1], mc, ms) 1065 6 (fun _ => rfl) ?_
  refine pj_R_sl (pj_cs30_s _ _ rfl) (by omega) (by omega) ?_
  show pj_R _ _ _ _ (G, 1066, [(4, .int v4), (3, .ref 203), (2, .ref 171), (1, .ref 1), (0, .ref 0)], [.int (xs (v4 + (Int32.ofInt 1)).toNatClampNeg), .ref 1], mc, ms) _
  refine pj_R_tz (M' := pj_cs30) rfl pj_cs30_s (G, 1071, [(4, .int v4), (3, .ref 203), (2, .ref 171), (1, .ref 1), (0, .ref 0)], [.int (v4 + (Int32.ofInt 2)), .ref 0, .int (xs (v4 + (Int32.ofInt 1)).toNatClampNeg), .ref 1], mc, ms) 1071 5 (fun _ => rfl) ?_
  refine pj_R_sl (pj_cs30_s _ _ rfl) (by omega) (by omega) ?_
  show pj_R _ _ _ _ (G, 1072, [(4, .int v4), (3, .ref 203), (2, .ref 171), (1, .ref 1), (0, .ref 0)], [.int (xs (v4 + (Int32.ofInt 2)).toNatClampNeg), .int (xs (v4 + (Int32.ofInt 1)).toNatClampNeg), .ref 1], mc, ms) _
  refine pj_R_tz (M' := pj_cs30) rfl pj_cs30_s (G, 1077, [(4, .int v4), (3, .ref 203), (2, .ref 171), (1, .ref 1), (0, .ref 0)], [.int (v4 + (Int32.ofInt 3)), .ref 0, .int (xs (v4 + (Int32.ofInt 2)).toNatClampNeg), .int (xs (v4 + (Int32.ofInt 1)).toNatClampNeg), .ref 1], mc, ms) 1077 5 (fun _ => rfl) ?_
  refine pj_R_sl (pj_cs30_s _ _ rfl) (by omega) (by omega) ?_
  show pj_R _ _ _ _ (G, 1078, [(4, .int v4), (3, .ref 203), (2, .ref 171), (1, .ref 1), (0, .ref 0)], [.int (xs (v4 + (Int32.ofInt 3)).toNatClampNeg), .int (xs (v4 + (Int32.ofInt 2)).toNatClampNeg), .int (xs (v4 + (Int32.ofInt 1)).toNatClampNeg), .ref 1], mc, ms) _
  refine pj_R_ca pj_lz_mon (vs := [.ref 1, .int (xs (v4 + (Int32.ofInt 1)).toNatClampNeg), .int (xs (v4 + (Int32.ofInt 2)).toNatClampNeg), .int (xs (v4 + (Int32.ofInt 3)).toNatClampNeg)]) (S2 := [.int y1]) (pj_cs30_s _ _ rfl) (fun _ => rfl) ⟨Nat.le_of_ble_eq_true rfl, Nat.le_of_ble_eq_true rfl, pj_T_rcv hI rfl⟩ ⟨rfl, rfl, rfl⟩ (pj_E_lz (by decide) (by decide) q1) ?_
  show pj_R _ _ _ _ (G1, 1081, [(4, .int v4), (3, .ref 203), (2, .ref 171), (1, .ref 1), (0, .ref 0)], [.int y1], mc, ms) _
  refine pj_R_tz (M' := pj_cs30) rfl pj_cs30_s (G1, 1088, [(4, .int v4), (3, .ref 203), (2, .ref 171), (1, .ref 1), (0, .ref 0)], [.int (v4 + (Int32.ofInt 1)), .ref 0, .ref 171], mc, ms) 1088 7 (fun _ => rfl) ?_
  refine pj_R_sl (pj_cs30_s _ _ rfl) (by omega) (by omega) ?_
  show pj_R _ _ _ _ (G1, 1089, [(4, .int v4), (3, .ref 203), (2, .ref 171), (1, .ref 1), (0, .ref 0)], [.int (xs (v4 + (Int32.ofInt 1)).toNatClampNeg), .ref 171], mc, ms) _
  refine pj_R_tz (M' := pj_cs30) rfl pj_cs30_s (G1, 1094, [(4, .int v4), (3, .ref 203), (2, .ref 171), (1, .ref 1), (0, .ref 0)], [.int (v4 + (Int32.ofInt 2)), .ref 0, .int (xs (v4 + (Int32.ofInt 1)).toNatClampNeg), .ref 171], mc, ms) 1094 5 (fun _ => rfl) ?_
  refine pj_R_sl (pj_cs30_s _ _ rfl) (by omega) (by omega) ?_
  show pj_R _ _ _ _ (G1, 1095, [(4, .int v4), (3, .ref 203), (2, .ref 171), (1, .ref 1), (0, .ref 0)], [.int (xs (v4 + (Int32.ofInt 2)).toNatClampNeg), .int (xs (v4 + (Int32.ofInt 1)).toNatClampNeg), .ref 171], mc, ms) _
  refine pj_R_tz (M' := pj_cs30) rfl pj_cs30_s (G1, 1100, [(4, .int v4), (3, .ref 203), (2, .ref 171), (1, .ref 1), (0, .ref 0)], [.int (v4 + (Int32.ofInt 3)), .ref 0, .int (xs (v4 + (Int32.ofInt 2)).toNatClampNeg), .int (xs (v4 + (Int32.ofInt 1)).toNatClampNeg), .ref 171], mc, ms) 1100 5 (fun _ => rfl) ?_
  refine pj_R_sl (pj_cs30_s _ _ rfl) (by omega) (by omega) ?_
  show pj_R _ _ _ _ (G1, 1101, [(4, .int v4), (3, .ref 203), (2, .ref 171), (1, .ref 1), (0, .ref 0)], [.int (xs (v4 + (Int32.ofInt 3)).toNatClampNeg), .int (xs (v4 + (Int32.ofInt 2)).toNatClampNeg), .int (xs (v4 + (Int32.ofInt 1)).toNatClampNeg), .ref 171], mc, ms) _
  refine pj_R_ca pj_lz_mon (vs := [.ref 171, .int (xs (v4 + (Int32.ofInt 1)).toNatClampNeg), .int (xs (v4 + (Int32.ofInt 2)).toNatClampNeg), .int (xs (v4 + (Int32.ofInt 3)).toNatClampNeg)]) (S2 := [.int y2]) (pj_cs30_s _ _ rfl) (fun _ => rfl) ⟨Nat.le_of_ble_eq_true rfl, Nat.le_of_ble_eq_true rfl, pj_T_rcv i1 rfl⟩ ⟨rfl, rfl, rfl⟩ (pj_E_lz (by decide) (by decide) q2) ?_
  show pj_R _ _ _ _ (G2, 1104, [(4, .int v4), (3, .ref 203), (2, .ref 171), (1, .ref 1), (0, .ref 0)], [.int y2], mc, ms) _
  refine pj_R_tz (M' := pj_cs30) rfl pj_cs30_s (G2, 1484, [(4, .int v4), (3, .ref 203), (2, .ref 171), (1, .ref 1), (0, .ref 0)], [], mc, ms) 1484 3 (fun _ => rfl) ?_
  exact hr
def pj_cs31 : pj_M := (pj_law.1, pj_law.2.1, 8, some .boolean, pj_law.2.2.2.2.1, [(1108, .aload_n 1, 1, [], 0), (1109, .aload_n 0, 1, [], 0), (1110, .iload 4, 2, [], 0), (1112, .iconst 1, 1, [], 0), (1113, .iadd, 1, [], 0), (1114, .iaload, 1, [], 0), (1115, .aload_n 0, 1, [], 0), (1116, .iload 4, 2, [], 0), (1118, .iconst 2, 1, [], 0), (1119, .iadd, 1, [], 0), (1120, .iaload, 1, [], 0), (1121, .aload_n 0, 1, [], 0), (1122, .iload 4, 2, [], 0), (1124, .iconst 3, 1, [], 0), (1125, .iadd, 1, [], 0), (1126, .iaload, 1, [], 0), (1127, .invokevirtual 158, 3, [0, 4, 148, 11, 1144], 0), (1130, .pop, 1, [], 0), (1131, .aload_n 2, 1, [], 0), (1132, .aload_n 0, 1, [], 0), (1133, .iload 4, 2, [], 0), (1135, .iconst 1, 1, [], 0), (1136, .iadd, 1, [], 0), (1137, .iaload, 1, [], 0), (1138, .aload_n 0, 1, [], 0), (1139, .iload 4, 2, [], 0), (1141, .iconst 2, 1, [], 0), (1142, .iadd, 1, [], 0), (1143, .iaload, 1, [], 0), (1144, .aload_n 0, 1, [], 0), (1145, .iload 4, 2, [], 0), (1147, .iconst 3, 1, [], 0), (1148, .iadd, 1, [], 0), (1149, .iaload, 1, [], 0), (1150, .invokevirtual 161, 3, [0, 4, 263, 12, 1954], 0), (1153, .pop, 1, [], 0), (1154, .goto 330, 3, [1484], 0)])
set_option maxRecDepth 100000 in
theorem pj_cs31_ok : pj_cs31.2.2.2.2.2.all (fun q => decide (pj_find pj_law.2.2.2.2.2 q.1 = some q.2)) = true := by decide +kernel
theorem pj_cs31_s : ∀ pc q, pj_find pj_cs31.2.2.2.2.2 pc = some q → pj_find pj_law.2.2.2.2.2 pc = some q := fun pc q hq => of_decide_eq_true (List.all_eq_true.mp pj_cs31_ok (pc, q) (pj_find_s hq))
set_option maxRecDepth 100000 in
set_option maxHeartbeats 8000000 in
theorem lw_31 {k : Nat} {xs : Nat → Int32} (hk : k ≤ 2560) (G : pj_G) (v4 : Int32) (hG : pj_LI v4.toInt G) (h0 : 0 ≤ v4.toInt) (h5 : v4.toInt + 5 ≤ k) (mc ms : Nat) : ∃ (G' : pj_G) (dc ds : Nat), pj_LI (v4.toInt + 5) G' ∧ dc ≤ 1 ∧ ds ≤ 6 ∧ ∀ r, pj_R pj_lz (k + 1) xs pj_law (G', 1484, [(4, .int v4), (3, .ref 203), (2, .ref 171), (1, .ref 1), (0, .ref 0)], [], mc + dc, ms + ds) r → pj_R pj_lz (k + 1) xs pj_law (G, 1108, [(4, .int v4), (3, .ref 203), (2, .ref 171), (1, .ref 1), (0, .ref 0)], [], mc, ms) r := by
  have ix1 : (v4 + Int32.ofInt 1).toInt = v4.toInt + 1 := pj_ix5 (by decide) h0 (by omega) (by decide) (by decide)
  have ix2 : (v4 + Int32.ofInt 2).toInt = v4.toInt + 2 := pj_ix5 (by decide) h0 (by omega) (by decide) (by decide)
  have ix3 : (v4 + Int32.ofInt 3).toInt = v4.toInt + 3 := pj_ix5 (by decide) h0 (by omega) (by decide) (by decide)
  have ix4 : (v4 + Int32.ofInt 4).toInt = v4.toInt + 4 := pj_ix5 (by decide) h0 (by omega) (by decide) (by decide)
  obtain ⟨hI, hR, hU, hT, hF, hN, hK, hE6⟩ := hG
  have hE1 := hT.1
  have hE2 := hT.2
  obtain ⟨v1, G1, q1, y1, rfl, i1, j1, -⟩ := ct_148 G hI (xs (v4 + Int32.ofInt 1).toNatClampNeg) (xs (v4 + Int32.ofInt 2).toNatClampNeg) (xs (v4 + Int32.ofInt 3).toNatClampNeg) 
  have g1 : ∀ b, 171 ≤ b → b < 203 → pj_get G1 b = pj_get G b := fun b h1 h2 => j1.2.1.1 b (pj_nc h1 h2 rfl)
  have hR1 : pj_RI G1 := pj_RI_g g1 hR
  have hU1 : (pj_fi G1 171 30).toInt ≤ 15 := pj_UN_g g1 hU
  obtain ⟨v2, G2, q2, y2, rfl, i2, j2, -⟩ := ct_263 G1 i1 (xs (v4 + Int32.ofInt 1).toNatClampNeg) (xs (v4 + Int32.ofInt 2).toNatClampNeg) (xs (v4 + Int32.ofInt 3).toNatClampNeg) 
  have a1 : (pj_fi G1 2 1).toInt = (pj_fi G 2 1).toInt := by rw [show pj_fi G1 2 1 = pj_fi G 2 1 from j1.1 (2, 1) (by decide)]
  have a2 : (pj_fi G1 171 16).toInt = (pj_fi G 171 16).toInt := by rw [pj_fi_g (g1 171 (by decide) (by decide))]
  have a3 : (pj_fi G2 2 1).toInt = (pj_fi G1 2 1).toInt := by rw [show pj_fi G2 2 1 = pj_fi G1 2 1 from j2.1 (2, 1) (by decide)]
  have a4 : (pj_fi G2 171 16).toInt = (pj_fi G1 171 16).toInt := by rw [show pj_fi G2 171 16 = pj_fi G1 171 16 from j2.1 (171, 16) (by decide)]
  refine ⟨G2, 0, 0, ⟨i2, (pj_RI_k hR1 j2 rfl), (by have q9 : pj_fi G2 171 30 = pj_fi G1 171 30 := j2.1 (171, 30) (by decide); rw [q9]; exact hU1), ⟨by omega, fun j hj => by rw [j2.2.2 3 (by decide) j, j2.2.2 180 (by decide) j, j1.2.2 3 (by decide) j, j1.2.2 180 (by decide) j]; exact hE2 j (by omega)⟩, mr_FR (mr_FX (mr_FG (mr_FC hF j1 rfl rfl) g1) j2 rfl rfl) j2 rfl, mr_Nk hN ((j2.1 (171, 7) (by decide)).trans (mr_gi (g1 171 (by decide) (by decide)))), mr_KR (mr_KX (mr_KG (mr_KC hK j1 rfl rfl) g1) j2 rfl rfl) j2 rfl, mr_En (mr_ER (mr_EC (mr_EG (mr_EC hE6 hI j1 rfl) i1 g1) i1 j2 rfl) i2 j2 rfl)⟩, by decide, by decide, fun r hr => ?_⟩
  refine pj_R_tz (M' := pj_cs31) rfl pj_cs31_s (G, 1114, [(4, .int v4), (3, .ref 203), (2, .ref 171), (1, .ref 1), (0, .ref 0)], [.int (v4 + (Int32.ofInt 1)), .ref 0, .ref 1], mc, ms) 1114 6 (fun _ => rfl) ?_
  refine pj_R_sl (pj_cs31_s _ _ rfl) (by omega) (by omega) ?_
  show pj_R _ _ _ _ (G, 1115, [(4, .int v4), (3, .ref 203), (2, .ref 171), (1, .ref 1), (0, .ref 0)], [.int (xs (v4 + (Int32.ofInt 1)).toNatClampNeg), .ref 1], mc, ms) _
  refine pj_R_tz (M' := pj_cs31) rfl pj_cs31_s (G, 1120, [(4, .int v4), (3, .ref 203), (2, .ref 171), (1, .ref 1), (0, .ref 0)], [.int (v4 + (Int32.ofInt 2)), .ref 0, .int (xs (v4 + (Int32.ofInt 1)).toNatClampNeg), .ref 1], mc, ms) 1120 5 (fun _ => rfl) ?_
  refine pj_R_sl (pj_cs31_s _ _ rfl) (by omega) (by omega) ?_
  show pj_R _ _ _ _ (G, 1121, [(4, .int v4), (3, .ref 203), (2, .ref 171), (1, .ref 1), (0, .ref 0)], [.int (xs (v4 + (Int32.ofInt 2)).toNatClampNeg), .int (xs (v4 + (Int32.ofInt 1)).toNatClampNeg), .ref 1], mc, ms) _
  refine pj_R_tz (M' := pj_cs31) rfl pj_cs31_s (G, 1126, [(4, .int v4), (3, .ref 203), (2, .ref 171), (1, .ref 1), (0, .ref 0)], [.int (v4 + (Int32.ofInt 3)), .ref 0, .int (xs (v4 + (Int32.ofInt 2)).toNatClampNeg), .int (xs (v4 + (Int32.ofInt 1)).toNatClampNeg), .ref 1], mc, ms) 1126 5 (fun _ => rfl) ?_
  refine pj_R_sl (pj_cs31_s _ _ rfl) (by omega) (by omega) ?_
  show pj_R _ _ _ _ (G, 1127, [(4, .int v4), (3, .ref 203), (2, .ref 171), (1, .ref 1), (0, .ref 0)], [.int (xs (v4 + (Int32.ofInt 3)).toNatClampNeg), .int (xs (v4 + (Int32.ofInt 2)).toNatClampNeg), .int (xs (v4 + (Int32.ofInt 1)).toNatClampNeg), .ref 1], mc, ms) _
  refine pj_R_ca pj_lz_mon (vs := [.ref 1, .int (xs (v4 + (Int32.ofInt 1)).toNatClampNeg), .int (xs (v4 + (Int32.ofInt 2)).toNatClampNeg), .int (xs (v4 + (Int32.ofInt 3)).toNatClampNeg)]) (S2 := [.int y1]) (pj_cs31_s _ _ rfl) (fun _ => rfl) ⟨Nat.le_of_ble_eq_true rfl, Nat.le_of_ble_eq_true rfl, pj_T_rcv hI rfl⟩ ⟨rfl, rfl, rfl⟩ (pj_E_lz (by decide) (by decide) q1) ?_
  show pj_R _ _ _ _ (G1, 1130, [(4, .int v4), (3, .ref 203), (2, .ref 171), (1, .ref 1), (0, .ref 0)], [.int y1], mc, ms) _
  refine pj_R_tz (M' := pj_cs31) rfl pj_cs31_s (G1, 1137, [(4, .int v4), (3, .ref 203), (2, .ref 171), (1, .ref 1), (0, .ref 0)], [.int (v4 + (Int32.ofInt 1)), .ref 0, .ref 171], mc, ms) 1137 7 (fun _ => rfl) ?_
  refine pj_R_sl (pj_cs31_s _ _ rfl) (by omega) (by omega) ?_
  show pj_R _ _ _ _ (G1, 1138, [(4, .int v4), (3, .ref 203), (2, .ref 171), (1, .ref 1), (0, .ref 0)], [.int (xs (v4 + (Int32.ofInt 1)).toNatClampNeg), .ref 171], mc, ms) _
  refine pj_R_tz (M' := pj_cs31) rfl pj_cs31_s (G1, 1143, [(4, .int v4), (3, .ref 203), (2, .ref 171), (1, .ref 1), (0, .ref 0)], [.int (v4 + (Int32.ofInt 2)), .ref 0, .int (xs (v4 + (Int32.ofInt 1)).toNatClampNeg), .ref 171], mc, ms) 1143 5 (fun _ => rfl) ?_
  refine pj_R_sl (pj_cs31_s _ _ rfl) (by omega) (by omega) ?_
  show pj_R _ _ _ _ (G1, 1144, [(4, .int v4), (3, .ref 203), (2, .ref 171), (1, .ref 1), (0, .ref 0)], [.int (xs (v4 + (Int32.ofInt 2)).toNatClampNeg), .int (xs (v4 + (Int32.ofInt 1)).toNatClampNeg), .ref 171], mc, ms) _
  refine pj_R_tz (M' := pj_cs31) rfl pj_cs31_s (G1, 1149, [(4, .int v4), (3, .ref 203), (2, .ref 171), (1, .ref 1), (0, .ref 0)], [.int (v4 + (Int32.ofInt 3)), .ref 0, .int (xs (v4 + (Int32.ofInt 2)).toNatClampNeg), .int (xs (v4 + (Int32.ofInt 1)).toNatClampNeg), .ref 171], mc, ms) 1149 5 (fun _ => rfl) ?_
  refine pj_R_sl (pj_cs31_s _ _ rfl) (by omega) (by omega) ?_
  show pj_R _ _ _ _ (G1, 1150, [(4, .int v4), (3, .ref 203), (2, .ref 171), (1, .ref 1), (0, .ref 0)], [.int (xs (v4 + (Int32.ofInt 3)).toNatClampNeg), .int (xs (v4 + (Int32.ofInt 2)).toNatClampNeg), .int (xs (v4 + (Int32.ofInt 1)).toNatClampNeg), .ref 171], mc, ms) _
  refine pj_R_ca pj_lz_mon (vs := [.ref 171, .int (xs (v4 + (Int32.ofInt 1)).toNatClampNeg), .int (xs (v4 + (Int32.ofInt 2)).toNatClampNeg), .int (xs (v4 + (Int32.ofInt 3)).toNatClampNeg)]) (S2 := [.int y2]) (pj_cs31_s _ _ rfl) (fun _ => rfl) ⟨Nat.le_of_ble_eq_true rfl, Nat.le_of_ble_eq_true rfl, pj_T_rcv i1 rfl⟩ ⟨rfl, rfl, rfl⟩ (pj_E_lz (by decide) (by decide) q2) ?_
  show pj_R _ _ _ _ (G2, 1153, [(4, .int v4), (3, .ref 203), (2, .ref 171), (1, .ref 1), (0, .ref 0)], [.int y2], mc, ms) _
  refine pj_R_tz (M' := pj_cs31) rfl pj_cs31_s (G2, 1484, [(4, .int v4), (3, .ref 203), (2, .ref 171), (1, .ref 1), (0, .ref 0)], [], mc, ms) 1484 3 (fun _ => rfl) ?_
  exact hr
def pj_cs32 : pj_M := (pj_law.1, pj_law.2.1, 8, some .boolean, pj_law.2.2.2.2.1, [(1157, .aload_n 1, 1, [], 0), (1158, .invokevirtual 162, 3, [0, 1, 149, 11, 1155], 0), (1161, .pop, 1, [], 0), (1162, .aload_n 2, 1, [], 0), (1163, .invokevirtual 165, 3, [0, 1, 264, 12, 1961], 0), (1166, .pop, 1, [], 0), (1167, .goto 317, 3, [1484], 0)])
set_option maxRecDepth 100000 in
theorem pj_cs32_ok : pj_cs32.2.2.2.2.2.all (fun q => decide (pj_find pj_law.2.2.2.2.2 q.1 = some q.2)) = true := by decide +kernel
theorem pj_cs32_s : ∀ pc q, pj_find pj_cs32.2.2.2.2.2 pc = some q → pj_find pj_law.2.2.2.2.2 pc = some q := fun pc q hq => of_decide_eq_true (List.all_eq_true.mp pj_cs32_ok (pc, q) (pj_find_s hq))
set_option maxRecDepth 100000 in
set_option maxHeartbeats 8000000 in
theorem lw_32 {k : Nat} {xs : Nat → Int32} (hk : k ≤ 2560) (G : pj_G) (v4 : Int32) (hG : pj_LI v4.toInt G) (h0 : 0 ≤ v4.toInt) (h5 : v4.toInt + 5 ≤ k) (mc ms : Nat) : ∃ (G' : pj_G) (dc ds : Nat), pj_LI (v4.toInt + 5) G' ∧ dc ≤ 1 ∧ ds ≤ 6 ∧ ∀ r, pj_R pj_lz (k + 1) xs pj_law (G', 1484, [(4, .int v4), (3, .ref 203), (2, .ref 171), (1, .ref 1), (0, .ref 0)], [], mc + dc, ms + ds) r → pj_R pj_lz (k + 1) xs pj_law (G, 1157, [(4, .int v4), (3, .ref 203), (2, .ref 171), (1, .ref 1), (0, .ref 0)], [], mc, ms) r := by
  have ix1 : (v4 + Int32.ofInt 1).toInt = v4.toInt + 1 := pj_ix5 (by decide) h0 (by omega) (by decide) (by decide)
  have ix2 : (v4 + Int32.ofInt 2).toInt = v4.toInt + 2 := pj_ix5 (by decide) h0 (by omega) (by decide) (by decide)
  have ix3 : (v4 + Int32.ofInt 3).toInt = v4.toInt + 3 := pj_ix5 (by decide) h0 (by omega) (by decide) (by decide)
  have ix4 : (v4 + Int32.ofInt 4).toInt = v4.toInt + 4 := pj_ix5 (by decide) h0 (by omega) (by decide) (by decide)
  obtain ⟨hI, hR, hU, hT, hF, hN, hK, hE6⟩ := hG
  have hE1 := hT.1
  have hE2 := hT.2
  obtain ⟨v1, G1, q1, y1, rfl, i1, j1, -⟩ := ct_149 G hI  
  have g1 : ∀ b, 171 ≤ b → b < 203 → pj_get G1 b = pj_get G b := fun b h1 h2 => j1.2.1.1 b (pj_nc h1 h2 rfl)
  have hR1 : pj_RI G1 := pj_RI_g g1 hR
  have hU1 : (pj_fi G1 171 30).toInt ≤ 15 := pj_UN_g g1 hU
  obtain ⟨v2, G2, q2, y2, rfl, i2, j2, -⟩ := ct_264 G1 i1  
  have a1 : (pj_fi G1 2 1).toInt = (pj_fi G 2 1).toInt := by rw [show pj_fi G1 2 1 = pj_fi G 2 1 from j1.1 (2, 1) (by decide)]
  have a2 : (pj_fi G1 171 16).toInt = (pj_fi G 171 16).toInt := by rw [pj_fi_g (g1 171 (by decide) (by decide))]
  have a3 : (pj_fi G2 2 1).toInt = (pj_fi G1 2 1).toInt := by rw [show pj_fi G2 2 1 = pj_fi G1 2 1 from j2.1 (2, 1) (by decide)]
  have a4 : (pj_fi G2 171 16).toInt = (pj_fi G1 171 16).toInt := by rw [show pj_fi G2 171 16 = pj_fi G1 171 16 from j2.1 (171, 16) (by decide)]
  refine ⟨G2, 0, 0, ⟨i2, (pj_RI_k hR1 j2 rfl), (by have q9 : pj_fi G2 171 30 = pj_fi G1 171 30 := j2.1 (171, 30) (by decide); rw [q9]; exact hU1), ⟨by omega, fun j hj => by rw [j2.2.2 3 (by decide) j, j2.2.2 180 (by decide) j, j1.2.2 3 (by decide) j, j1.2.2 180 (by decide) j]; exact hE2 j (by omega)⟩, mr_FR (mr_FX (mr_FG (mr_FC hF j1 rfl rfl) g1) j2 rfl rfl) j2 rfl, mr_Nk hN ((j2.1 (171, 7) (by decide)).trans (mr_gi (g1 171 (by decide) (by decide)))), mr_KR (mr_KX (mr_KG (mr_KC hK j1 rfl rfl) g1) j2 rfl rfl) j2 rfl, mr_En (mr_ER (mr_EC (mr_EG (mr_EC hE6 hI j1 rfl) i1 g1) i1 j2 rfl) i2 j2 rfl)⟩, by decide, by decide, fun r hr => ?_⟩
  refine pj_R_tz (M' := pj_cs32) rfl pj_cs32_s (G, 1158, [(4, .int v4), (3, .ref 203), (2, .ref 171), (1, .ref 1), (0, .ref 0)], [.ref 1], mc, ms) 1158 2 (fun _ => rfl) ?_
  refine pj_R_ca pj_lz_mon (vs := [.ref 1]) (S2 := [.int y1]) (pj_cs32_s _ _ rfl) (fun _ => rfl) ⟨Nat.le_of_ble_eq_true rfl, Nat.le_of_ble_eq_true rfl, pj_T_rcv hI rfl⟩ ⟨rfl, rfl, rfl⟩ (pj_E_lz (by decide) (by decide) q1) ?_
  show pj_R _ _ _ _ (G1, 1161, [(4, .int v4), (3, .ref 203), (2, .ref 171), (1, .ref 1), (0, .ref 0)], [.int y1], mc, ms) _
  refine pj_R_tz (M' := pj_cs32) rfl pj_cs32_s (G1, 1163, [(4, .int v4), (3, .ref 203), (2, .ref 171), (1, .ref 1), (0, .ref 0)], [.ref 171], mc, ms) 1163 3 (fun _ => rfl) ?_
  refine pj_R_ca pj_lz_mon (vs := [.ref 171]) (S2 := [.int y2]) (pj_cs32_s _ _ rfl) (fun _ => rfl) ⟨Nat.le_of_ble_eq_true rfl, Nat.le_of_ble_eq_true rfl, pj_T_rcv i1 rfl⟩ ⟨rfl, rfl, rfl⟩ (pj_E_lz (by decide) (by decide) q2) ?_
  show pj_R _ _ _ _ (G2, 1166, [(4, .int v4), (3, .ref 203), (2, .ref 171), (1, .ref 1), (0, .ref 0)], [.int y2], mc, ms) _
  refine pj_R_tz (M' := pj_cs32) rfl pj_cs32_s (G2, 1484, [(4, .int v4), (3, .ref 203), (2, .ref 171), (1, .ref 1), (0, .ref 0)], [], mc, ms) 1484 3 (fun _ => rfl) ?_
  exact hr
