def pj_cs33 : pj_M := (pj_law.1, pj_law.2.1, 8, some .boolean, pj_law.2.2.2.2.1, [(1170, .aload_n 1, 1, [], 0), (1171, .invokevirtual 166, 3, [0, 1, 150, 11, 1159], 0), (1174, .pop, 1, [], 0), (1175, .aload_n 2, 1, [], 0), (1176, .invokevirtual 169, 3, [0, 1, 267, 12, 1965], 0), (1179, .pop, 1, [], 0), (1180, .goto 304, 3, [1484], 0)])
set_option maxRecDepth 100000 in
theorem pj_cs33_ok : pj_cs33.2.2.2.2.2.all (fun q => decide (pj_find pj_law.2.2.2.2.2 q.1 = some q.2)) = true := by decide +kernel
theorem pj_cs33_s : ∀ pc q, pj_find pj_cs33.2.2.2.2.2 pc = some q → pj_find pj_law.2.2.2.2.2 pc = some q := fun pc q hq => of_decide_eq_true (List.all_eq_true.mp pj_cs33_ok (pc, q) (pj_find_s hq))
set_option maxRecDepth 100000 in
set_option maxHeartbeats 8000000 in
theorem lw_33 {k : Nat} {xs : Nat → Int32} (hk : k ≤ 2560) (G : pj_G) (v4 : Int32) (hG : pj_LI v4.toInt G) (h0 : 0 ≤ v4.toInt) (h5 : v4.toInt + 5 ≤ k) (mc ms : Nat) : ∃ (G' : pj_G) (dc ds : Nat), pj_LI (v4.toInt + 5) G' ∧ dc ≤ 1 ∧ ds ≤ 6 ∧ ∀ r, pj_R pj_lz (k + 1) xs pj_law (G', 1484, [(4, .int v4), (3, .ref 203), (2, .ref 171), (1, .ref 1), (0, .ref 0)], [], mc + dc, ms + ds) r → pj_R pj_lz (k + 1) xs pj_law (G, 1170, [(4, .int v4), (3, .ref 203), (2, .ref 171), (1, .ref 1), (0, .ref 0)], [], mc, ms) r := by
  have ix1 : (v4 + Int32.ofInt 1).toInt = v4.toInt + 1 := pj_ix5 (by decide) h0 (by omega) (by decide) (by decide)
  have ix2 : (v4 + Int32.ofInt 2).toInt = v4.toInt + 2 := pj_ix5 (by decide) h0 (by omega) (by decide) (by decide)
  have ix3 : (v4 + Int32.ofInt 3).toInt = v4.toInt + 3 := pj_ix5 (by decide) h0 (by omega) (by decide) (by decide)
  have ix4 : (v4 + Int32.ofInt 4).toInt = v4.toInt + 4 := pj_ix5 (by decide) h0 (by omega) (by decide) (by decide)
  obtain ⟨hI, hR, hU, hT, hF, hN, hK, hE6⟩ := hG
  have hE1 := hT.1
  have hE2 := hT.2
  obtain ⟨v1, G1, q1, y1, rfl, i1, j1, -⟩ := ct_150 G hI  
  have g1 : ∀ b, 171 ≤ b → b < 203 → pj_get G1 b = pj_get G b := fun b h1 h2 => j1.2.1.1 b (pj_nc h1 h2 rfl)
  have hR1 : pj_RI G1 := pj_RI_g g1 hR
  have hU1 : (pj_fi G1 171 30).toInt ≤ 15 := pj_UN_g g1 hU
  obtain ⟨v2, G2, q2, y2, rfl, i2, j2, -⟩ := ct_267 G1 i1  
  have a1 : (pj_fi G1 2 1).toInt = (pj_fi G 2 1).toInt := by rw [show pj_fi G1 2 1 = pj_fi G 2 1 from j1.1 (2, 1) (by decide)]
  have a2 : (pj_fi G1 171 16).toInt = (pj_fi G 171 16).toInt := by rw [pj_fi_g (g1 171 (by decide) (by decide))]
  have a3 : (pj_fi G2 2 1).toInt = (pj_fi G1 2 1).toInt := by rw [show pj_fi G2 2 1 = pj_fi G1 2 1 from j2.1 (2, 1) (by decide)]
  have a4 : (pj_fi G2 171 16).toInt = (pj_fi G1 171 16).toInt := by rw [show pj_fi G2 171 16 = pj_fi G1 171 16 from j2.1 (171, 16) (by decide)]
  refine ⟨G2, 0, 0, ⟨i2, (pj_RI_k hR1 j2 rfl), (by have q9 : pj_fi G2 171 30 = pj_fi G1 171 30 := j2.1 (171, 30) (by decide); rw [q9]; exact hU1), ⟨by omega, fun j hj => by rw [j2.2.2 3 (by decide) j, j2.2.2 180 (by decide) j, j1.2.2 3 (by decide) j, j1.2.2 180 (by decide) j]; exact hE2 j (by omega)⟩, mr_FR (mr_FX (mr_FG (mr_FC hF j1 rfl rfl) g1) j2 rfl rfl) j2 rfl, mr_Nk hN ((j2.1 (171, 7) (by decide)).trans (mr_gi (g1 171 (by decide) (by decide)))), mr_KR (mr_KX (mr_KG (mr_KC hK j1 rfl rfl) g1) j2 rfl rfl) j2 rfl, mr_En (mr_ER (mr_EC (mr_EG (mr_EC hE6 hI j1 rfl) i1 g1) i1 j2 rfl) i2 j2 rfl)⟩, by decide, by decide, fun r hr => ?_⟩
  refine pj_R_tz (M' := pj_cs33) rfl pj_cs33_s (G, 1171, [(4, .int v4), (3, .ref 203), (2, .ref 171), (1, .ref 1), (0, .ref 0)], [.ref 1], mc, ms) 1171 2 (fun _ => rfl) ?_
  refine pj_R_ca pj_lz_mon (vs := [.ref 1]) (S2 := [.int y1]) (pj_cs33_s _ _ rfl) (fun _ => rfl) ⟨Nat.le_of_ble_eq_true rfl, Nat.le_of_ble_eq_true rfl, pj_T_rcv hI rfl⟩ ⟨rfl, rfl, rfl⟩ (pj_E_lz (by decide) (by decide) q1) ?_
  show pj_R _ _ _ _ (G1, 1174, [(4, .int v4), (3, .ref 203), (2, .ref 171), (1, .ref 1), (0, .ref 0)], [.int y1], mc, ms) _
  refine pj_R_tz (M' := pj_cs33) rfl pj_cs33_s (G1, 1176, [(4, .int v4), (3, .ref 203), (2, .ref 171), (1, .ref 1), (0, .ref 0)], [.ref 171], mc, ms) 1176 3 (fun _ => rfl) ?_
  refine pj_R_ca pj_lz_mon (vs := [.ref 171]) (S2 := [.int y2]) (pj_cs33_s _ _ rfl) (fun _ => rfl) ⟨Nat.le_of_ble_eq_true rfl, Nat.le_of_ble_eq_true rfl, pj_T_rcv i1 rfl⟩ ⟨rfl, rfl, rfl⟩ (pj_E_lz (by decide) (by decide) q2) ?_
  show pj_R _ _ _ _ (G2, 1179, [(4, .int v4), (3, .ref 203), (2, .ref 171), (1, .ref 1), (0, .ref 0)], [.int y2], mc, ms) _
  refine pj_R_tz (M' := pj_cs33) rfl pj_cs33_s (G2, 1484, [(4, .int v4), (3, .ref 203), (2, .ref 171), (1, .ref 1), (0, .ref 0)], [], mc, ms) 1484 3 (fun _ => rfl) ?_
  exact hr
def pj_cs34 : pj_M := (pj_law.1, pj_law.2.1, 8, some .boolean, pj_law.2.2.2.2.1, [(1183, .aload_n 1, 1, [], 0), (1184, .invokevirtual 170, 3, [0, 1, 151, 11, 1175], 0), (1187, .pop, 1, [], 0), (1188, .aload_n 2, 1, [], 0), (1189, .invokevirtual 173, 3, [0, 1, 268, 12, 1977], 0), (1192, .pop, 1, [], 0), (1193, .goto 291, 3, [1484], 0)])
set_option maxRecDepth 100000 in
theorem pj_cs34_ok : pj_cs34.2.2.2.2.2.all (fun q => decide (pj_find pj_law.2.2.2.2.2 q.1 = some q.2)) = true := by decide +kernel
theorem pj_cs34_s : ∀ pc q, pj_find pj_cs34.2.2.2.2.2 pc = some q → pj_find pj_law.2.2.2.2.2 pc = some q := fun pc q hq => of_decide_eq_true (List.all_eq_true.mp pj_cs34_ok (pc, q) (pj_find_s hq))
set_option maxRecDepth 100000 in
set_option maxHeartbeats 8000000 in
theorem lw_34 {k : Nat} {xs : Nat → Int32} (hk : k ≤ 2560) (G : pj_G) (v4 : Int32) (hG : pj_LI v4.toInt G) (h0 : 0 ≤ v4.toInt) (h5 : v4.toInt + 5 ≤ k) (mc ms : Nat) : ∃ (G' : pj_G) (dc ds : Nat), pj_LI (v4.toInt + 5) G' ∧ dc ≤ 1 ∧ ds ≤ 6 ∧ ∀ r, pj_R pj_lz (k + 1) xs pj_law (G', 1484, [(4, .int v4), (3, .ref 203), (2, .ref 171), (1, .ref 1), (0, .ref 0)], [], mc + dc, ms + ds) r → pj_R pj_lz (k + 1) xs pj_law (G, 1183, [(4, .int v4), (3, .ref 203), (2, .ref 171), (1, .ref 1), (0, .ref 0)], [], mc, ms) r := by
  have ix1 : (v4 + Int32.ofInt 1).toInt = v4.toInt + 1 := pj_ix5 (by decide) h0 (by omega) (by decide) (by decide)
  have ix2 : (v4 + Int32.ofInt 2).toInt = v4.toInt + 2 := pj_ix5 (by decide) h0 (by omega) (by decide) (by decide)
  have ix3 : (v4 + Int32.ofInt 3).toInt = v4.toInt + 3 := pj_ix5 (by decide) h0 (by omega) (by decide) (by decide)
  have ix4 : (v4 + Int32.ofInt 4).toInt = v4.toInt + 4 := pj_ix5 (by decide) h0 (by omega) (by decide) (by decide)
  obtain ⟨hI, hR, hU, hT, hF, hN, hK, hE6⟩ := hG
  have hE1 := hT.1
  have hE2 := hT.2
  obtain ⟨v1, G1, q1, y1, rfl, i1, j1, -⟩ := ct_151 G hI  
  have g1 : ∀ b, 171 ≤ b → b < 203 → pj_get G1 b = pj_get G b := fun b h1 h2 => j1.2.1.1 b (pj_nc h1 h2 rfl)
  have hR1 : pj_RI G1 := pj_RI_g g1 hR
  have hU1 : (pj_fi G1 171 30).toInt ≤ 15 := pj_UN_g g1 hU
  obtain ⟨v2, G2, q2, y2, rfl, i2, j2, -⟩ := ct_268 G1 i1  
  have a1 : (pj_fi G1 2 1).toInt = (pj_fi G 2 1).toInt := by rw [show pj_fi G1 2 1 = pj_fi G 2 1 from j1.1 (2, 1) (by decide)]
  have a2 : (pj_fi G1 171 16).toInt = (pj_fi G 171 16).toInt := by rw [pj_fi_g (g1 171 (by decide) (by decide))]
  have a3 : (pj_fi G2 2 1).toInt = (pj_fi G1 2 1).toInt := by rw [show pj_fi G2 2 1 = pj_fi G1 2 1 from j2.1 (2, 1) (by decide)]
  have a4 : (pj_fi G2 171 16).toInt = (pj_fi G1 171 16).toInt := by rw [show pj_fi G2 171 16 = pj_fi G1 171 16 from j2.1 (171, 16) (by decide)]
  refine ⟨G2, 0, 0, ⟨i2, (pj_RI_k hR1 j2 rfl), (by have q9 : pj_fi G2 171 30 = pj_fi G1 171 30 := j2.1 (171, 30) (by decide); rw [q9]; exact hU1), ⟨by omega, fun j hj => by rw [j2.2.2 3 (by decide) j, j2.2.2 180 (by decide) j, j1.2.2 3 (by decide) j, j1.2.2 180 (by decide) j]; exact hE2 j (by omega)⟩, mr_FR (mr_FX (mr_FG (mr_FC hF j1 rfl rfl) g1) j2 rfl rfl) j2 rfl, mr_Nk hN ((j2.1 (171, 7) (by decide)).trans (mr_gi (g1 171 (by decide) (by decide)))), mr_KR (mr_KX (mr_KG (mr_KC hK j1 rfl rfl) g1) j2 rfl rfl) j2 rfl, mr_En (mr_ER (mr_EC (mr_EG (mr_EC hE6 hI j1 rfl) i1 g1) i1 j2 rfl) i2 j2 rfl)⟩, by decide, by decide, fun r hr => ?_⟩
  refine pj_R_tz (M' := pj_cs34) rfl pj_cs34_s (G, 1184, [(4, .int v4), (3, .ref 203), (2, .ref 171), (1, .ref 1), (0, .ref 0)], [.ref 1], mc, ms) 1184 2 (fun _ => rfl) ?_
  refine pj_R_ca pj_lz_mon (vs := [.ref 1]) (S2 := [.int y1]) (pj_cs34_s _ _ rfl) (fun _ => rfl) ⟨Nat.le_of_ble_eq_true rfl, Nat.le_of_ble_eq_true rfl, pj_T_rcv hI rfl⟩ ⟨rfl, rfl, rfl⟩ (pj_E_lz (by decide) (by decide) q1) ?_
  show pj_R _ _ _ _ (G1, 1187, [(4, .int v4), (3, .ref 203), (2, .ref 171), (1, .ref 1), (0, .ref 0)], [.int y1], mc, ms) _
  refine pj_R_tz (M' := pj_cs34) rfl pj_cs34_s (G1, 1189, [(4, .int v4), (3, .ref 203), (2, .ref 171), (1, .ref 1), (0, .ref 0)], [.ref 171], mc, ms) 1189 3 (fun _ => rfl) ?_
  refine pj_R_ca pj_lz_mon (vs := [.ref 171]) (S2 := [.int y2]) (pj_cs34_s _ _ rfl) (fun _ => rfl) ⟨Nat.le_of_ble_eq_true rfl, Nat.le_of_ble_eq_true rfl, pj_T_rcv i1 rfl⟩ ⟨rfl, rfl, rfl⟩ (pj_E_lz (by decide) (by decide) q2) ?_
  show pj_R _ _ _ _ (G2, 1192, [(4, .int v4), (3, .ref 203), (2, .ref 171), (1, .ref 1), (0, .ref 0)], [.int y2], mc, ms) _
  refine pj_R_tz (M' := pj_cs34) rfl pj_cs34_s (G2, 1484, [(4, .int v4), (3, .ref 203), (2, .ref 171), (1, .ref 1), (0, .ref 0)], [], mc, ms) 1484 3 (fun _ => rfl) ?_
  exact hr
def pj_cs35 : pj_M := (pj_law.1, pj_law.2.1, 8, some .boolean, pj_law.2.2.2.2.1, [(1196, .aload_n 1, 1, [], 0), (1197, .aload_n 0, 1, [], 0), (1198, .iload 4, 2, [], 0), (1200, .iconst 1, 1, [], 0), (1201, .iadd, 1, [], 0), (1202, .iaload, 1, [], 0), (1203, .aload_n 0, 1, [], 0), (1204, .iload 4, 2, [], 0), (1206, .iconst 2, 1, [], 0), (1207, .iadd, 1, [], 0), (1208, .iaload, 1, [], 0), (1209, .aload_n 0, 1, [], 0), (1210, .iload 4, 2, [], 0), (1212, .iconst 3, 1, [], 0), (1213, .iadd, 1, [], 0), (1214, .iaload, 1, [], 0), (1215, .aload_n 0, 1, [], 0), (1216, .iload 4, 2, [], 0), (1218, .iconst 4, 1, [], 0), (1219, .iadd, 1, [], 0), (1220, .iaload, 1, [], 0), (1221, .invokevirtual 174, 3, [0, 5, 152, 11, 1187], 0), (1224, .pop, 1, [], 0), (1225, .aload_n 2, 1, [], 0), (1226, .aload_n 0, 1, [], 0), (1227, .iload 4, 2, [], 0), (1229, .iconst 1, 1, [], 0), (1230, .iadd, 1, [], 0), (1231, .iaload, 1, [], 0), (1232, .aload_n 0, 1, [], 0), (1233, .iload 4, 2, [], 0), (1235, .iconst 2, 1, [], 0), (1236, .iadd, 1, [], 0), (1237, .iaload, 1, [], 0), (1238, .aload_n 0, 1, [], 0), (1239, .iload 4, 2, [], 0), (1241, .iconst 3, 1, [], 0), (1242, .iadd, 1, [], 0), (1243, .iaload, 1, [], 0), (1244, .aload_n 0, 1, [], 0), (1245, .iload 4, 2, [], 0), (1247, .iconst 4, 1, [], 0), (1248, .iadd, 1, [], 0), (1249, .iaload, 1, [], 0), (1250, .invokevirtual 177, 3, [0, 5, 271, 12, 1981], 0), (1253, .pop, 1, [], 0), (1254, .goto 230, 3, [1484], 0)])
set_option maxRecDepth 100000 in
theorem pj_cs35_ok : pj_cs35.2.2.2.2.2.all (fun q => decide (pj_find pj_law.2.2.2.2.2 q.1 = some q.2)) = true := by decide +kernel
theorem pj_cs35_s : ∀ pc q, pj_find pj_cs35.2.2.2.2.2 pc = some q → pj_find pj_law.2.2.2.2.2 pc = some q := fun pc q hq => of_decide_eq_true (List.all_eq_true.mp pj_cs35_ok (pc, q) (pj_find_s hq))
set_option maxRecDepth 100000 in
set_option maxHeartbeats 8000000 in
theorem lw_35 {k : Nat} {xs : Nat → Int32} (hk : k ≤ 2560) (G : pj_G) (v4 : Int32) (hG : pj_LI v4.toInt G) (h0 : 0 ≤ v4.toInt) (h5 : v4.toInt + 5 ≤ k) (mc ms : Nat) : ∃ (G' : pj_G) (dc ds : Nat), pj_LI (v4.toInt + 5) G' ∧ dc ≤ 1 ∧ ds ≤ 6 ∧ ∀ r, pj_R pj_lz (k + 1) xs pj_law (G', 1484, [(4, .int v4), (3, .ref 203), (2, .ref 171), (1, .ref 1), (0, .ref 0)], [], mc + dc, ms + ds) r → pj_R pj_lz (k + 1) xs pj_law (G, 1196, [(4, .int v4), (3, .ref 203), (2, .ref 171), (1, .ref 1), (0, .ref 0)], [], mc, ms) r := by
  have ix1 : (v4 + Int32.ofInt 1).toInt = v4.toInt + 1 := pj_ix5 (by decide) h0 (by omega) (by decide) (by decide)
  have ix2 : (v4 + Int32.ofInt 2).toInt = v4.toInt + 2 := pj_ix5 (by decide) h0 (by omega) (by decide) (by decide)
  have ix3 : (v4 + Int32.ofInt 3).toInt = v4.toInt + 3 := pj_ix5 (by decide) h0 (by omega) (by decide) (by decide)
  have ix4 : (v4 + Int32.ofInt 4).toInt = v4.toInt + 4 := pj_ix5 (by decide) h0 (by omega) (by decide) (by decide)
  obtain ⟨hI, hR, hU, hT, hF, hN, hK, hE6⟩ := hG
  have hE1 := hT.1
  have hE2 := hT.2
  obtain ⟨v1, G1, q1, y1, rfl, i1, j1, -⟩ := ct_152 G hI (xs (v4 + Int32.ofInt 1).toNatClampNeg) (xs (v4 + Int32.ofInt 2).toNatClampNeg) (xs (v4 + Int32.ofInt 3).toNatClampNeg) (xs (v4 + Int32.ofInt 4).toNatClampNeg) 
  have g1 : ∀ b, 171 ≤ b → b < 203 → pj_get G1 b = pj_get G b := fun b h1 h2 => j1.2.1.1 b (pj_nc h1 h2 rfl)
  have hR1 : pj_RI G1 := pj_RI_g g1 hR
  have hU1 : (pj_fi G1 171 30).toInt ≤ 15 := pj_UN_g g1 hU
  obtain ⟨v2, G2, q2, y2, rfl, i2, j2, -⟩ := ct_271 G1 i1 (xs (v4 + Int32.ofInt 1).toNatClampNeg) (xs (v4 + Int32.ofInt 2).toNatClampNeg) (xs (v4 + Int32.ofInt 3).toNatClampNeg) (xs (v4 + Int32.ofInt 4).toNatClampNeg) 
  have a1 : (pj_fi G1 2 1).toInt = (pj_fi G 2 1).toInt := by rw [show pj_fi G1 2 1 = pj_fi G 2 1 from j1.1 (2, 1) (by decide)]
  have a2 : (pj_fi G1 171 16).toInt = (pj_fi G 171 16).toInt := by rw [pj_fi_g (g1 171 (by decide) (by decide))]
  have a3 : (pj_fi G2 2 1).toInt = (pj_fi G1 2 1).toInt := by rw [show pj_fi G2 2 1 = pj_fi G1 2 1 from j2.1 (2, 1) (by decide)]
  have a4 : (pj_fi G2 171 16).toInt = (pj_fi G1 171 16).toInt := by rw [show pj_fi G2 171 16 = pj_fi G1 171 16 from j2.1 (171, 16) (by decide)]
  refine ⟨G2, 0, 0, ⟨i2, (pj_RI_k hR1 j2 rfl), (by have q9 : pj_fi G2 171 30 = pj_fi G1 171 30 := j2.1 (171, 30) (by decide); rw [q9]; exact hU1), ⟨by omega, fun j hj => by rw [j2.2.2 3 (by decide) j, j2.2.2 180 (by decide) j, j1.2.2 3 (by decide) j, j1.2.2 180 (by decide) j]; exact hE2 j (by omega)⟩, mr_FR (mr_FX (mr_FG (mr_FC hF j1 rfl rfl) g1) j2 rfl rfl) j2 rfl, mr_Nk hN ((j2.1 (171, 7) (by decide)).trans (mr_gi (g1 171 (by decide) (by decide)))), mr_KR (mr_KX (mr_KG (mr_KC hK j1 rfl rfl) g1) j2 rfl rfl) j2 rfl, mr_En (mr_ER (mr_EC (mr_EG (mr_EC hE6 hI j1 rfl) i1 g1) i1 j2 rfl) i2 j2 rfl)⟩, by decide, by decide, fun r hr => ?_⟩
  refine pj_R_tz (M' := pj_cs35) rfl pj_cs35_s (G, 1202, [(4, .int v4), (3, .ref 203), (2, .ref 171), (1, .ref 1), (0, .ref 0)], [.int (v4 + (Int32.ofInt 1)), .ref 0, .ref 1], mc, ms) 1202 6 (fun _ => rfl) ?_
  refine pj_R_sl (pj_cs35_s _ _ rfl) (by omega) (by omega) ?_
  show pj_R _ _ _ _ (G, 1203, [(4, .int v4), (3, .ref 203), (2, .ref 171), (1, .ref 1), (0, .ref 0)], [.int (xs (v4 + (Int32.ofInt 1)).toNatClampNeg), .ref 1], mc, ms) _
  refine pj_R_tz (M' := pj_cs35) rfl pj_cs35_s (G, 1208, [(4, .int v4), (3, .ref 203), (2, .ref 171), (1, .ref 1), (0, .ref 0)], [.int (v4 + (Int32.ofInt 2)), .ref 0, .int (xs (v4 + (Int32.ofInt 1)).toNatClampNeg), .ref 1], mc, ms) 1208 5 (fun _ => rfl) ?_
  refine pj_R_sl (pj_cs35_s _ _ rfl) (by omega) (by omega) ?_
  show pj_R _ _ _ _ (G, 1209, [(4, .int v4), (3, .ref 203), (2, .ref 171), (1, .ref 1), (0, .ref 0)], [.int (xs (v4 + (Int32.ofInt 2)).toNatClampNeg), .int (xs (v4 + (Int32.ofInt 1)).toNatClampNeg), .ref 1], mc, ms) _
  refine pj_R_tz (M' := pj_cs35) rfl pj_cs35_s (G, 1214, [(4, .int v4), (3, .ref 203), (2, .ref 171), (1, .ref 1), (0, .ref 0)], [.int (v4 + (Int32.ofInt 3)), .ref 0, .int (xs (v4 + (Int32.ofInt 2)).toNatClampNeg), .int (xs (v4 + (Int32.ofInt 1)).toNatClampNeg), .ref 1], mc, ms) 1214 5 (fun _ => rfl) ?_
  refine pj_R_sl (pj_cs35_s _ _ rfl) (by omega) (by omega) ?_
  show pj_R _ _ _ _ (G, 1215, [(4, .int v4), (3, .ref 203), (2, .ref 171), (1, .ref 1), (0, .ref 0)], [.int (xs (v4 + (Int32.ofInt 3)).toNatClampNeg), .int (xs (v4 + (Int32.ofInt 2)).toNatClampNeg), .int (xs (v4 + (Int32.ofInt 1)).toNatClampNeg), .ref 1], mc, ms) _
  refine pj_R_tz (M' := pj_cs35) rfl pj_cs35_s (G, 1220, [(4, .int v4), (3, .ref 203), (2, .ref 171), (1, .ref 1), (0, .ref 0)], [.int (v4 + (Int32.ofInt 4)), .ref 0, .int (xs (v4 + (Int32.ofInt 3)).toNatClampNeg), .int (xs (v4 + (Int32.ofInt 2)).toNatClampNeg), .int (xs (v4 + (Int32.ofInt 1)).toNatClampNeg), .ref 1], mc, ms) 1220 5 (fun _ => rfl) ?_
  refine pj_R_sl (pj_cs35_s _ _ rfl) (by omega) (by omega) ?_
  show pj_R _ _ _ _ (G, 1221, [(4, .int v4), (3, .ref 203), (2, .ref 171), (1, .ref 1), (0, .ref 0)], [.int (xs (v4 + (Int32.ofInt 4)).toNatClampNeg), .int (xs (v4 + (Int32.ofInt 3)).toNatClampNeg), .int (xs (v4 + (Int32.ofInt 2)).toNatClampNeg), .int (xs (v4 + (Int32.ofInt 1)).toNatClampNeg), .ref 1], mc, ms) _
  refine pj_R_ca pj_lz_mon (vs := [.ref 1, .int (xs (v4 + (Int32.ofInt 1)).toNatClampNeg), .int (xs (v4 + (Int32.ofInt 2)).toNatClampNeg), .int (xs (v4 + (Int32.ofInt 3)).toNatClampNeg), .int (xs (v4 + (Int32.ofInt 4)).toNatClampNeg)]) (S2 := [.int y1]) (pj_cs35_s _ _ rfl) (fun _ => rfl) ⟨Nat.le_of_ble_eq_true rfl, Nat.le_of_ble_eq_true rfl, pj_T_rcv hI rfl⟩ ⟨rfl, rfl, rfl⟩ (pj_E_lz (by decide) (by decide) q1) ?_
  show pj_R _ _ _ _ (G1, 1224, [(4, .int v4), (3, .ref 203), (2, .ref 171), (1, .ref 1), (0, .ref 0)], [.int y1], mc, ms) _
  refine pj_R_tz (M' := pj_cs35) rfl pj_cs35_s (G1, 1231, [(4, .int v4), (3, .ref 203), (2, .ref 171), (1, .ref 1), (0, .ref 0)], [.int (v4 + (Int32.ofInt 1)), .ref 0, .ref 171], mc, ms) 1231 7 (fun _ => rfl) ?_
  refine pj_R_sl (pj_cs35_s _ _ rfl) (by omega) (by omega) ?_
  show pj_R _ _ _ _ (G1, 1232, [(4, .int v4), (3, .ref 203), (2, .ref 171), (1, .ref 1), (0, .ref 0)], [.int (xs (v4 + (Int32.ofInt 1)).toNatClampNeg), .ref 171], mc, ms) _
  refine pj_R_tz (M' := pj_cs35) rfl pj_cs35_s (G1, 1237, [(4, .int v4), (3, .ref 203), (2, .ref 171), (1, .ref 1), (0, .ref 0)], [.int (v4 + (Int32.ofInt 2)), .ref 0, .int (xs (v4 + (Int32.ofInt 1)).toNatClampNeg), .ref 171], mc, ms) 1237 5 (fun _ => rfl) ?_
  refine pj_R_sl (pj_cs35_s _ _ rfl) (by omega) (by omega) ?_
  show pj_R _ _ _ _ (G1, 1238, [(4, .int v4), (3, .ref 203), (2, .ref 171), (1, .ref 1), (0, .ref 0)], [.int (xs (v4 + (Int32.ofInt 2)).toNatClampNeg), .int (xs (v4 + (Int32.ofInt 1)).toNatClampNeg), .ref 171], mc, ms) _
  refine pj_R_tz (M' := pj_cs35) rfl pj_cs35_s (G1, 1243, [(4, .int v4), (3, .ref 203), (2, .ref 171), (1, .ref 1), (0, .ref 0)], [.int (v4 + (Int32.ofInt 3)), .ref 0, .int (xs (v4 + (Int32.ofInt 2)).toNatClampNeg), .int (xs (v4 + (Int32.ofInt 1)).toNatClampNeg), .ref 171], mc, ms) 1243 5 (fun _ => rfl) ?_
  refine pj_R_sl (pj_cs35_s _ _ rfl) (by omega) (by omega) ?_
  show pj_R _ _ _ _ (G1, 1244, [(4, .int v4), (3, .ref 203), (2, .ref 171), (1, .ref 1), (0, .ref 0)], [.int (xs (v4 + (Int32.ofInt 3)).toNatClampNeg), .int (xs (v4 + (Int32.ofInt 2)).toNatClampNeg), .int (xs (v4 + (Int32.ofInt 1)).toNatClampNeg), .ref 171], mc, ms) _
  refine pj_R_tz (M' := pj_cs35) rfl pj_cs35_s (G1, 1249, [(4, .int v4), (3, .ref 203), (2, .ref 171), (1, .ref 1), (0, .ref 0)], [.int (v4 + (Int32.ofInt 4)), .ref 0, .int (xs (v4 + (Int32.ofInt 3)).toNatClampNeg), .int (xs (v4 + (Int32.ofInt 2)).toNatClampNeg), .int (xs (v4 + (Int32.ofInt 1)).toNatClampNeg), .ref 171], mc, ms) 1249 5 (fun _ => rfl) ?_
  refine pj_R_sl (pj_cs35_s _ _ rfl) (by omega) (by omega) ?_
  show pj_R _ _ _ _ (G1, 1250, [(4, .int v4), (3, .ref 203), (2, .ref 171), (1, .ref 1), (0, .ref 0)], [.int (xs (v4 + (Int32.ofInt 4)).toNatClampNeg), .int (xs (v4 + (Int32.ofInt 3)).toNatClampNeg), .int (xs (v4 + (Int32.ofInt 2)).toNatClampNeg), .int (xs (v4 + (Int32.ofInt 1)).toNatClampNeg), .ref 171], mc, ms) _
  refine pj_R_ca pj_lz_mon (vs := [.ref 171, .int (xs (v4 + (Int32.ofInt 1)).toNatClampNeg), .int (xs (v4 + (Int32.ofInt 2)).toNatClampNeg), .int (xs (v4 + (Int32.ofInt 3)).toNatClampNeg), .int (xs (v4 + (Int32.ofInt 4)).toNatClampNeg)]) (S2 := [.int y2]) (pj_cs35_s _ _ rfl) (fun _ => rfl) ⟨Nat.le_of_ble_eq_true rfl, Nat.le_of_ble_eq_true rfl, pj_T_rcv i1 rfl⟩ ⟨rfl, rfl, rfl⟩ (pj_E_lz (by decide) (by decide) q2) ?_
  show pj_R _ _ _ _ (G2, 1253, [(4, .int v4), (3, .ref 203), (2, .ref 171), (1, .ref 1), (0, .ref 0)], [.int y2], mc, ms) _
  refine pj_R_tz (M' := pj_cs35) rfl pj_cs35_s (G2, 1484, [(4, .int v4), (3, .ref 203), (2, .ref 171), (1, .ref 1), (0, .ref 0)], [], mc, ms) 1484 3 (fun _ => rfl) ?_
  exact hr
def pj_cs36 : pj_M := (pj_law.1, pj_law.2.1, 8, some .boolean, pj_law.2.2.2.2.1, [(1257, .aload_n 1, 1, [], 0), (1258, .aload_n 0, 1, [], 0), (1259, .iload 4, 2, [], 0), (1261, .iconst 1, 1, [], 0), (1262, .iadd, 1, [], 0), (1263, .iaload, 1, [], 0), (1264, .aload_n 0, 1, [], 0), (1265, .iload 4, 2, [], 0), (1267, .iconst 2, 1, [], 0), (1268, .iadd, 1, [], 0), (1269, .iaload, 1, [], 0), (1270, .aload_n 0, 1, [], 0), (1271, .iload 4, 2, [], 0), (1273, .iconst 3, 1, [], 0), (1274, .iadd, 1, [], 0), (1275, .iaload, 1, [], 0), (1276, .invokevirtual 178, 3, [0, 4, 153, 11, 1194], 0), (1279, .pop, 1, [], 0), (1280, .aload_n 2, 1, [], 0), (1281, .aload_n 0, 1, [], 0), (1282, .iload 4, 2, [], 0), (1284, .iconst 1, 1, [], 0), (1285, .iadd, 1, [], 0), (1286, .iaload, 1, [], 0), (1287, .aload_n 0, 1, [], 0), (1288, .iload 4, 2, [], 0), (1290, .iconst 2, 1, [], 0), (1291, .iadd, 1, [], 0), (1292, .iaload, 1, [], 0), (1293, .aload_n 0, 1, [], 0), (1294, .iload 4, 2, [], 0), (1296, .iconst 3, 1, [], 0), (1297, .iadd, 1, [], 0), (1298, .iaload, 1, [], 0), (1299, .invokevirtual 181, 3, [0, 4, 272, 12, 1994], 0), (1302, .pop, 1, [], 0), (1303, .goto 181, 3, [1484], 0)])
set_option maxRecDepth 100000 in
theorem pj_cs36_ok : pj_cs36.2.2.2.2.2.all (fun q => decide (pj_find pj_law.2.2.2.2.2 q.1 = some q.2)) = true := by decide +kernel
theorem pj_cs36_s : ∀ pc q, pj_find pj_cs36.2.2.2.2.2 pc = some q → pj_find pj_law.2.2.2.2.2 pc = some q := fun pc q hq => of_decide_eq_true (List.all_eq_true.mp pj_cs36_ok (pc, q) (pj_find_s hq))
set_option maxRecDepth 100000 in
set_option maxHeartbeats 8000000 in
theorem lw_36 {k : Nat} {xs : Nat → Int32} (hk : k ≤ 2560) (G : pj_G) (v4 : Int32) (hG : pj_LI v4.toInt G) (h0 : 0 ≤ v4.toInt) (h5 : v4.toInt + 5 ≤ k) (mc ms : Nat) : ∃ (G' : pj_G) (dc ds : Nat), pj_LI (v4.toInt + 5) G' ∧ dc ≤ 1 ∧ ds ≤ 6 ∧ ∀ r, pj_R pj_lz (k + 1) xs pj_law (G', 1484, [(4, .int v4), (3, .ref 203), (2, .ref 171), (1, .ref 1), (0, .ref 0)], [], mc + dc, ms + ds) r → pj_R pj_lz (k + 1) xs pj_law (G, 1257, [(4, .int v4), (3, .ref 203), (2, .ref 171), (1, .ref 1), (0, .ref 0)], [], mc, ms) r := by
  have ix1 : (v4 + Int32.ofInt 1).toInt = v4.toInt + 1 := pj_ix5 (by decide) h0 (by omega) (by decide) (by decide)
  have ix2 : (v4 + Int32.ofInt 2).toInt = v4.toInt + 2 := pj_ix5 (by decide) h0 (by omega) (by decide) (by decide)
  have ix3 : (v4 + Int32.ofInt 3).toInt = v4.toInt + 3 := pj_ix5 (by decide) h0 (by omega) (by decide) (by decide)
  have ix4 : (v4 + Int32.ofInt 4).toInt = v4.toInt + 4 := pj_ix5 (by decide) h0 (by omega) (by decide) (by decide)
  obtain ⟨hI, hR, hU, hT, hF, hN, hK, hE6⟩ := hG
  have hE1 := hT.1
  have hE2 := hT.2
  obtain ⟨v1, G1, q1, y1, rfl, i1, j1, -⟩ := ct_153 G hI (xs (v4 + Int32.ofInt 1).toNatClampNeg) (xs (v4 + Int32.ofInt 2).toNatClampNeg) (xs (v4 + Int32.ofInt 3).toNatClampNeg) 
  have g1 : ∀ b, 171 ≤ b → b < 203 → pj_get G1 b = pj_get G b := fun b h1 h2 => j1.2.1.1 b (pj_nc h1 h2 rfl)
  have hR1 : pj_RI G1 := pj_RI_g g1 hR
  have hU1 : (pj_fi G1 171 30).toInt ≤ 15 := pj_UN_g g1 hU
  obtain ⟨v2, G2, q2, y2, rfl, i2, j2, -⟩ := ct_272 G1 i1 (xs (v4 + Int32.ofInt 1).toNatClampNeg) (xs (v4 + Int32.ofInt 2).toNatClampNeg) (xs (v4 + Int32.ofInt 3).toNatClampNeg) 
  have a1 : (pj_fi G1 2 1).toInt = (pj_fi G 2 1).toInt := by rw [show pj_fi G1 2 1 = pj_fi G 2 1 from j1.1 (2, 1) (by decide)]
  have a2 : (pj_fi G1 171 16).toInt = (pj_fi G 171 16).toInt := by rw [pj_fi_g (g1 171 (by decide) (by decide))]
  have a3 : (pj_fi G2 2 1).toInt = (pj_fi G1 2 1).toInt := by rw [show pj_fi G2 2 1 = pj_fi G1 2 1 from j2.1 (2, 1) (by decide)]
  have a4 : (pj_fi G2 171 16).toInt = (pj_fi G1 171 16).toInt := by rw [show pj_fi G2 171 16 = pj_fi G1 171 16 from j2.1 (171, 16) (by decide)]
  refine ⟨G2, 0, 0, ⟨i2, (pj_RI_k hR1 j2 rfl), (by have q9 : pj_fi G2 171 30 = pj_fi G1 171 30 := j2.1 (171, 30) (by decide); rw [q9]; exact hU1), ⟨by omega, fun j hj => by rw [j2.2.2 3 (by decide) j, j2.2.2 180 (by decide) j, j1.2.2 3 (by decide) j, j1.2.2 180 (by decide) j]; exact hE2 j (by omega)⟩, mr_FR (mr_FX (mr_FG (mr_FC hF j1 rfl rfl) g1) j2 rfl rfl) j2 rfl, mr_Nk hN ((j2.1 (171, 7) (by decide)).trans (mr_gi (g1 171 (by decide) (by decide)))), mr_KR (mr_KX (mr_KG (mr_KC hK j1 rfl rfl) g1) j2 rfl rfl) j2 rfl, mr_En (mr_ER (mr_EC (mr_EG (mr_EC hE6 hI j1 rfl) i1 g1) i1 j2 rfl) i2 j2 rfl)⟩, by decide, by decide, fun r hr => ?_⟩
  refine pj_R_tz (M' := pj_cs36) rfl pj_cs36_s (G, 1263, [(4, .int v4), (3, .ref 203), (2, .ref 171), (1, .ref 1), (0, .ref 0)], [.int (v4 + (Int32.ofInt 1)), .ref 0, .ref 1], mc, ms) 1263 6 (fun _ => rfl) ?_
  refine pj_R_sl (pj_cs36_s _ _ rfl) (by omega) (by omega) ?_
  show pj_R _ _ _ _ (G, 1264, [(4, .int v4), (3, .ref 203), (2, .ref 171), (1, .ref 1), (0, .ref 0)], [.int (xs (v4 + (Int32.ofInt 1)).toNatClampNeg), .ref 1], mc, ms) _
  refine pj_R_tz (M' := pj_cs36) rfl pj_cs36_s (G, 1269, [(4, .int v4), (3, .ref 203), (2, .ref 171), (1, .ref 1), (0, .ref 0)], [.int (v4 + (Int32.ofInt 2)), .ref 0, .int (xs (v4 + (Int32.ofInt 1)).toNatClampNeg), .ref 1], mc, ms) 1269 5 (fun _ => rfl) ?_
  refine pj_R_sl (pj_cs36_s _ _ rfl) (by omega) (by omega) ?_
  show pj_R _ _ _ _ (G, 1270, [(4, .int v4), (3, .ref 203), (2, .ref 171), (1, .ref 1), (0, .ref 0)], [.int (xs (v4 + (Int32.ofInt 2)).toNatClampNeg), .int (xs (v4 + (Int32.ofInt 1)).toNatClampNeg), .ref 1], mc, ms) _
  refine pj_R_tz (M' := pj_cs36) rfl pj_cs36_s (G, 1275, [(4, .int v4), (3, .ref 203), (2, .ref 171), (1, .ref 1), (0, .ref 0)], [.int (v4 + (Int32.ofInt 3)), .ref 0, .int (xs (v4 + (Int32.ofInt 2)).toNatClampNeg), .int (xs (v4 + (Int32.ofInt 1)).toNatClampNeg), .ref 1], mc, ms) 1275 5 (fun _ => rfl) ?_
  refine pj_R_sl (pj_cs36_s _ _ rfl) (by omega) (by omega) ?_
  show pj_R _ _ _ _ (G, 1276, [(4, .int v4), (3, .ref 203), (2, .ref 171), (1, .ref 1), (0, .ref 0)], [.int (xs (v4 + (Int32.ofInt 3)).toNatClampNeg), .int (xs (v4 + (Int32.ofInt 2)).toNatClampNeg), .int (xs (v4 + (Int32.ofInt 1)).toNatClampNeg), .ref 1], mc, ms) _
  refine pj_R_ca pj_lz_mon (vs := [.ref 1, .int (xs (v4 + (Int32.ofInt 1)).toNatClampNeg), .int (xs (v4 + (Int32.ofInt 2)).toNatClampNeg), .int (xs (v4 + (Int32.ofInt 3)).toNatClampNeg)]) (S2 := [.int y1]) (pj_cs36_s _ _ rfl) (fun _ => rfl) ⟨Nat.le_of_ble_eq_true rfl, Nat.le_of_ble_eq_true rfl, pj_T_rcv hI rfl⟩ ⟨rfl, rfl, rfl⟩ (pj_E_lz (by decide) (by decide) q1) ?_
  show pj_R _ _ _ _ (G1, 1279, [(4, .int v4), (3, .ref 203), (2, .ref 171), (1, .ref 1), (0, .ref 0)], [.int y1], mc, ms) _
  refine pj_R_tz (M' := pj_cs36) rfl pj_cs36_s (G1, 1286, [(4, .int v4), (3, .ref 203), (2, .ref 171), (1, .ref 1), (0, .ref 0)], [.int (v4 + (Int32.ofInt 1)), .ref 0, .ref 171], mc, ms) 1286 7 (fun _ => rfl) ?_
  refine pj_R_sl (pj_cs36_s _ _ rfl) (by omega) (by omega) ?_
  show pj_R _ _ _ _ (G1, 1287, [(4, .int v4), (3, .ref 203), (2, .ref 171), (1, .ref 1), (0, .ref 0)], [.int (xs (v4 + (Int32.ofInt 1)).toNatClampNeg), .ref 171], mc, ms) _
  refine pj_R_tz (M' := pj_cs36) rfl pj_cs36_s (G1, 1292, [(4, .int v4), (3, .ref 203), (2, .ref 171), (1, .ref 1), (0, .ref 0)], [.int (v4 + (Int32.ofInt 2)), .ref 0, .int (xs (v4 + (Int32.ofInt 1)).toNatClampNeg), .ref 171], mc, ms) 1292 5 (fun _ => rfl) ?_
  refine pj_R_sl (pj_cs36_s _ _ rfl) (by omega) (by omega) ?_
  show pj_R _ _ _ _ (G1, 1293, [(4, .int v4), (3, .ref 203), (2, .ref 171), (1, .ref 1), (0, .ref 0)], [.int (xs (v4 + (Int32.ofInt 2)).toNatClampNeg), .int (xs (v4 + (Int32.ofInt 1)).toNatClampNeg), .ref 171], mc, ms) _
  refine pj_R_tz (M' := pj_cs36) rfl pj_cs36_s (G1, 1298, [(4, .int v4), (3, .ref 203), (2, .ref 171), (1, .ref 1), (0, .ref 0)], [.int (v4 + (Int32.ofInt 3)), .ref 0, .int (xs (v4 + (Int32.ofInt 2)).toNatClampNeg), .int (xs (v4 + (Int32.ofInt 1)).toNatClampNeg), .ref 171], mc, ms) 1298 5 (fun _ => rfl) ?_
  refine pj_R_sl (pj_cs36_s _ _ rfl) (by omega) (by omega) ?_
  show pj_R _ _ _ _ (G1, 1299, [(4, .int v4), (3, .ref 203), (2, .ref 171), (1, .ref 1), (0, .ref 0)], [.int (xs (v4 + (Int32.ofInt 3)).toNatClampNeg), .int (xs (v4 + (Int32.ofInt 2)).toNatClampNeg), .int (xs (v4 + (Int32.ofInt 1)).toNatClampNeg), .ref 171], mc, ms) _
  refine pj_R_ca pj_lz_mon (vs := [.ref 171, .int (xs (v4 + (Int32.ofInt 1)).toNatClampNeg), .int (xs (v4 + (Int32.ofInt 2)).toNatClampNeg), .int (xs (v4 + (Int32.ofInt 3)).toNatClampNeg)]) (S2 := [.int y2]) (pj_cs36_s _ _ rfl) (fun _ => rfl) ⟨Nat.le_of_ble_eq_true rfl, Nat.le_of_ble_eq_true rfl, pj_T_rcv i1 rfl⟩ ⟨rfl, rfl, rfl⟩ (pj_E_lz (by decide) (by decide) q2) ?_
  show pj_R _ _ _ _ (G2, 1302, [(4, .int v4), (3, .ref 203), (2, .ref 171), (1, .ref 1), (0, .ref 0)], [.int y2], mc, ms) _
  refine pj_R_tz (M' := pj_cs36) rfl pj_cs36_s (G2, 1484, [(4, .int v4), (3, .ref 203), (2, .ref 171), (1, .ref 1), (0, .ref 0)], [], mc, ms) 1484 3 (fun _ => rfl) ?_
  exact hr
def pj_cs37 : pj_M := (pj_law.1, pj_law.2.1, 8, some .boolean, pj_law.2.2.2.2.1, [(1306, .aload_n 1, 1, [], 0), (1307, .aload_n 0, 1, [], 0), (1308, .iload 4, 2, [], 0), (1310, .iconst 1, 1, [], 0), (1311, .iadd, 1, [], 0), (1312, .iaload, 1, [], 0), (1313, .invokevirtual 182, 3, [0, 2, 154, 11, 1198], 0), (1316, .pop, 1, [], 0), (1317, .aload_n 2, 1, [], 0), (1318, .aload_n 0, 1, [], 0), (1319, .iload 4, 2, [], 0), (1321, .iconst 1, 1, [], 0), (1322, .iadd, 1, [], 0), (1323, .iaload, 1, [], 0), (1324, .invokevirtual 185, 3, [0, 2, 275, 12, 1998], 0), (1327, .pop, 1, [], 0), (1328, .goto 156, 3, [1484], 0)])
set_option maxRecDepth 100000 in
theorem pj_cs37_ok : pj_cs37.2.2.2.2.2.all (fun q => decide (pj_find pj_law.2.2.2.2.2 q.1 = some q.2)) = true := by decide +kernel
theorem pj_cs37_s : ∀ pc q, pj_find pj_cs37.2.2.2.2.2 pc = some q → pj_find pj_law.2.2.2.2.2 pc = some q := fun pc q hq => of_decide_eq_true (List.all_eq_true.mp pj_cs37_ok (pc, q) (pj_find_s hq))
set_option maxRecDepth 100000 in
set_option maxHeartbeats 8000000 in
theorem lw_37 {k : Nat} {xs : Nat → Int32} (hk : k ≤ 2560) (G : pj_G) (v4 : Int32) (hG : pj_LI v4.toInt G) (h0 : 0 ≤ v4.toInt) (h5 : v4.toInt + 5 ≤ k) (mc ms : Nat) : ∃ (G' : pj_G) (dc ds : Nat), pj_LI (v4.toInt + 5) G' ∧ dc ≤ 1 ∧ ds ≤ 6 ∧ ∀ r, pj_R pj_lz (k + 1) xs pj_law (G', 1484, [(4, .int v4), (3, .ref 203), (2, .ref 171), (1, .ref 1), (0, .ref 0)], [], mc + dc, ms + ds) r → pj_R pj_lz (k + 1) xs pj_law (G, 1306, [(4, .int v4), (3, .ref 203), (2, .ref 171), (1, .ref 1), (0, .ref 0)], [], mc, ms) r := by
  have ix1 : (v4 + Int32.ofInt 1).toInt = v4.toInt + 1 := pj_ix5 (by decide) h0 (by omega) (by decide) (by decide)
  have ix2 : (v4 + Int32.ofInt 2).toInt = v4.toInt + 2 := pj_ix5 (by decide) h0 (by omega) (by decide) (by decide)
  have ix3 : (v4 + Int32.ofInt 3).toInt = v4.toInt + 3 := pj_ix5 (by decide) h0 (by omega) (by decide) (by decide)
  have ix4 : (v4 + Int32.ofInt 4).toInt = v4.toInt + 4 := pj_ix5 (by decide) h0 (by omega) (by decide) (by decide)
  obtain ⟨hI, hR, hU, hT, hF, hN, hK, hE6⟩ := hG
  have hE1 := hT.1
  have hE2 := hT.2
  obtain ⟨v1, G1, q1, y1, rfl, i1, j1, -⟩ := ct_154 G hI (xs (v4 + Int32.ofInt 1).toNatClampNeg) 
  have g1 : ∀ b, 171 ≤ b → b < 203 → pj_get G1 b = pj_get G b := fun b h1 h2 => j1.2.1.1 b (pj_nc h1 h2 rfl)
  have hR1 : pj_RI G1 := pj_RI_g g1 hR
  have hU1 : (pj_fi G1 171 30).toInt ≤ 15 := pj_UN_g g1 hU
  obtain ⟨v2, G2, q2, y2, rfl, i2, j2, -⟩ := ct_275 G1 i1 (xs (v4 + Int32.ofInt 1).toNatClampNeg) 
  have a1 : (pj_fi G1 2 1).toInt = (pj_fi G 2 1).toInt := by rw [show pj_fi G1 2 1 = pj_fi G 2 1 from j1.1 (2, 1) (by decide)]
  have a2 : (pj_fi G1 171 16).toInt = (pj_fi G 171 16).toInt := by rw [pj_fi_g (g1 171 (by decide) (by decide))]
  have a3 : (pj_fi G2 2 1).toInt = (pj_fi G1 2 1).toInt := by rw [show pj_fi G2 2 1 = pj_fi G1 2 1 from j2.1 (2, 1) (by decide)]
  have a4 : (pj_fi G2 171 16).toInt = (pj_fi G1 171 16).toInt := by rw [show pj_fi G2 171 16 = pj_fi G1 171 16 from j2.1 (171, 16) (by decide)]
  refine ⟨G2, 0, 0, ⟨i2, (pj_RI_k hR1 j2 rfl), (by have q9 : pj_fi G2 171 30 = pj_fi G1 171 30 := j2.1 (171, 30) (by decide); rw [q9]; exact hU1), ⟨by omega, fun j hj => by rw [j2.2.2 3 (by decide) j, j2.2.2 180 (by decide) j, j1.2.2 3 (by decide) j, j1.2.2 180 (by decide) j]; exact hE2 j (by omega)⟩, mr_FR (mr_FX (mr_FG (mr_FC hF j1 rfl rfl) g1) j2 rfl rfl) j2 rfl, mr_Nk hN ((j2.1 (171, 7) (by decide)).trans (mr_gi (g1 171 (by decide) (by decide)))), mr_KR (mr_KX (mr_KG (mr_KC hK j1 rfl rfl) g1) j2 rfl rfl) j2 rfl, mr_En (mr_ER (mr_EC (mr_EG (mr_EC hE6 hI j1 rfl) i1 g1) i1 j2 rfl) i2 j2 rfl)⟩, by decide, by decide, fun r hr => ?_⟩
  refine pj_R_tz (M' := pj_cs37) rfl pj_cs37_s (G, 1312, [(4, .int v4), (3, .ref 203), (2, .ref 171), (1, .ref 1), (0, .ref 0)], [.int (v4 + (Int32.ofInt 1)), .ref 0, .ref 1], mc, ms) 1312 6 (fun _ => rfl) ?_
  refine pj_R_sl (pj_cs37_s _ _ rfl) (by omega) (by omega) ?_
  show pj_R _ _ _ _ (G, 1313, [(4, .int v4), (3, .ref 203), (2, .ref 171), (1, .ref 1), (0, .ref 0)], [.int (xs (v4 + (Int32.ofInt 1)).toNatClampNeg), .ref 1], mc, ms) _
  refine pj_R_ca pj_lz_mon (vs := [.ref 1, .int (xs (v4 + (Int32.ofInt 1)).toNatClampNeg)]) (S2 := [.int y1]) (pj_cs37_s _ _ rfl) (fun _ => rfl) ⟨Nat.le_of_ble_eq_true rfl, Nat.le_of_ble_eq_true rfl, pj_T_rcv hI rfl⟩ ⟨rfl, rfl, rfl⟩ (pj_E_lz (by decide) (by decide) q1) ?_
  show pj_R _ _ _ _ (G1, 1316, [(4, .int v4), (3, .ref 203), (2, .ref 171), (1, .ref 1), (0, .ref 0)], [.int y1], mc, ms) _
  refine pj_R_tz (M' := pj_cs37) rfl pj_cs37_s (G1, 1323, [(4, .int v4), (3, .ref 203), (2, .ref 171), (1, .ref 1), (0, .ref 0)], [.int (v4 + (Int32.ofInt 1)), .ref 0, .ref 171], mc, ms) 1323 7 (fun _ => rfl) ?_
  refine pj_R_sl (pj_cs37_s _ _ rfl) (by omega) (by omega) ?_
  show pj_R _ _ _ _ (G1, 1324, [(4, .int v4), (3, .ref 203), (2, .ref 171), (1, .ref 1), (0, .ref 0)], [.int (xs (v4 + (Int32.ofInt 1)).toNatClampNeg), .ref 171], mc, ms) _
  refine pj_R_ca pj_lz_mon (vs := [.ref 171, .int (xs (v4 + (Int32.ofInt 1)).toNatClampNeg)]) (S2 := [.int y2]) (pj_cs37_s _ _ rfl) (fun _ => rfl) ⟨Nat.le_of_ble_eq_true rfl, Nat.le_of_ble_eq_true rfl, pj_T_rcv i1 rfl⟩ ⟨rfl, rfl, rfl⟩ (pj_E_lz (by decide) (by decide) q2) ?_
  show pj_R _ _ _ _ (G2, 1327, [(4, .int v4), (3, .ref 203), (2, .ref 171), (1, .ref 1), (0, .ref 0)], [.int y2], mc, ms) _
  refine pj_R_tz (M' := pj_cs37) rfl pj_cs37_s (G2, 1484, [(4, .int v4), (3, .ref 203), (2, .ref 171), (1, .ref 1), (0, .ref 0)], [], mc, ms) 1484 3 (fun _ => rfl) ?_
  exact hr
def pj_cs38 : pj_M := (pj_law.1, pj_law.2.1, 8, some .boolean, pj_law.2.2.2.2.1, [(1331, .aload_n 1, 1, [], 0), (1332, .invokevirtual 186, 3, [0, 1, 155, 11, 1208], 0), (1335, .pop, 1, [], 0), (1336, .aload_n 2, 1, [], 0), (1337, .invokevirtual 189, 3, [0, 1, 277, 12, 2008], 0), (1340, .pop, 1, [], 0), (1341, .goto 143, 3, [1484], 0)])
set_option maxRecDepth 100000 in
theorem pj_cs38_ok : pj_cs38.2.2.2.2.2.all (fun q => decide (pj_find pj_law.2.2.2.2.2 q.1 = some q.2)) = true := by decide +kernel
theorem pj_cs38_s : ∀ pc q, pj_find pj_cs38.2.2.2.2.2 pc = some q → pj_find pj_law.2.2.2.2.2 pc = some q := fun pc q hq => of_decide_eq_true (List.all_eq_true.mp pj_cs38_ok (pc, q) (pj_find_s hq))
set_option maxRecDepth 100000 in
set_option maxHeartbeats 8000000 in
theorem lw_38 {k : Nat} {xs : Nat → Int32} (hk : k ≤ 2560) (G : pj_G) (v4 : Int32) (hG : pj_LI v4.toInt G) (h0 : 0 ≤ v4.toInt) (h5 : v4.toInt + 5 ≤ k) (mc ms : Nat) : ∃ (G' : pj_G) (dc ds : Nat), pj_LI (v4.toInt + 5) G' ∧ dc ≤ 1 ∧ ds ≤ 6 ∧ ∀ r, pj_R pj_lz (k + 1) xs pj_law (G', 1484, [(4, .int v4), (3, .ref 203), (2, .ref 171), (1, .ref 1), (0, .ref 0)], [], mc + dc, ms + ds) r → pj_R pj_lz (k + 1) xs pj_law (G, 1331, [(4, .int v4), (3, .ref 203), (2, .ref 171), (1, .ref 1), (0, .ref 0)], [], mc, ms) r := by
  have ix1 : (v4 + Int32.ofInt 1).toInt = v4.toInt + 1 := pj_ix5 (by decide) h0 (by omega) (by decide) (by decide)
  have ix2 : (v4 + Int32.ofInt 2).toInt = v4.toInt + 2 := pj_ix5 (by decide) h0 (by omega) (by decide) (by decide)
  have ix3 : (v4 + Int32.ofInt 3).toInt = v4.toInt + 3 := pj_ix5 (by decide) h0 (by omega) (by decide) (by decide)
  have ix4 : (v4 + Int32.ofInt 4).toInt = v4.toInt + 4 := pj_ix5 (by decide) h0 (by omega) (by decide) (by decide)
  obtain ⟨hI, hR, hU, hT, hF, hN, hK, hE6⟩ := hG
  have hE1 := hT.1
  have hE2 := hT.2
  obtain ⟨v1, G1, q1, y1, rfl, i1, j1, -⟩ := ct_155 G hI  
  have g1 : ∀ b, 171 ≤ b → b < 203 → pj_get G1 b = pj_get G b := fun b h1 h2 => j1.2.1.1 b (pj_nc h1 h2 rfl)
  have hR1 : pj_RI G1 := pj_RI_g g1 hR
  have hU1 : (pj_fi G1 171 30).toInt ≤ 15 := pj_UN_g g1 hU
  obtain ⟨v2, G2, q2, y2, rfl, i2, j2, -⟩ := ct_277 G1 i1  hR1
  have a1 : (pj_fi G1 2 1).toInt = (pj_fi G 2 1).toInt := by rw [show pj_fi G1 2 1 = pj_fi G 2 1 from j1.1 (2, 1) (by decide)]
  have a2 : (pj_fi G1 171 16).toInt = (pj_fi G 171 16).toInt := by rw [pj_fi_g (g1 171 (by decide) (by decide))]
  have a3 : (pj_fi G2 2 1).toInt = (pj_fi G1 2 1).toInt := by rw [show pj_fi G2 2 1 = pj_fi G1 2 1 from j2.1 (2, 1) (by decide)]
  have a4 : (pj_fi G2 171 16).toInt = (pj_fi G1 171 16).toInt := by rw [show pj_fi G2 171 16 = pj_fi G1 171 16 from j2.1 (171, 16) (by decide)]
  refine ⟨G2, 0, 0, ⟨i2, (pj_RI_k hR1 j2 rfl), (by have q9 : pj_fi G2 171 30 = pj_fi G1 171 30 := j2.1 (171, 30) (by decide); rw [q9]; exact hU1), ⟨by omega, fun j hj => by rw [j2.2.2 3 (by decide) j, j2.2.2 180 (by decide) j, j1.2.2 3 (by decide) j, j1.2.2 180 (by decide) j]; exact hE2 j (by omega)⟩, mr_FR (mr_FX (mr_FG (mr_FC hF j1 rfl rfl) g1) j2 rfl rfl) j2 rfl, mr_Nk hN ((j2.1 (171, 7) (by decide)).trans (mr_gi (g1 171 (by decide) (by decide)))), mr_KR (mr_KX (mr_KG (mr_KC hK j1 rfl rfl) g1) j2 rfl rfl) j2 rfl, mr_En (mr_ER (mr_EC (mr_EG (mr_EC hE6 hI j1 rfl) i1 g1) i1 j2 rfl) i2 j2 rfl)⟩, by decide, by decide, fun r hr => ?_⟩
  refine pj_R_tz (M' := pj_cs38) rfl pj_cs38_s (G, 1332, [(4, .int v4), (3, .ref 203), (2, .ref 171), (1, .ref 1), (0, .ref 0)], [.ref 1], mc, ms) 1332 2 (fun _ => rfl) ?_
  refine pj_R_ca pj_lz_mon (vs := [.ref 1]) (S2 := [.int y1]) (pj_cs38_s _ _ rfl) (fun _ => rfl) ⟨Nat.le_of_ble_eq_true rfl, Nat.le_of_ble_eq_true rfl, pj_T_rcv hI rfl⟩ ⟨rfl, rfl, rfl⟩ (pj_E_lz (by decide) (by decide) q1) ?_
  show pj_R _ _ _ _ (G1, 1335, [(4, .int v4), (3, .ref 203), (2, .ref 171), (1, .ref 1), (0, .ref 0)], [.int y1], mc, ms) _
  refine pj_R_tz (M' := pj_cs38) rfl pj_cs38_s (G1, 1337, [(4, .int v4), (3, .ref 203), (2, .ref 171), (1, .ref 1), (0, .ref 0)], [.ref 171], mc, ms) 1337 3 (fun _ => rfl) ?_
  refine pj_R_ca pj_lz_mon (vs := [.ref 171]) (S2 := [.int y2]) (pj_cs38_s _ _ rfl) (fun _ => rfl) ⟨Nat.le_of_ble_eq_true rfl, Nat.le_of_ble_eq_true rfl, pj_T_rcv i1 rfl⟩ ⟨rfl, rfl, rfl⟩ (pj_E_lz (by decide) (by decide) q2) ?_
  show pj_R _ _ _ _ (G2, 1340, [(4, .int v4), (3, .ref 203), (2, .ref 171), (1, .ref 1), (0, .ref 0)], [.int y2], mc, ms) _
  refine pj_R_tz (M' := pj_cs38) rfl pj_cs38_s (G2, 1484, [(4, .int v4), (3, .ref 203), (2, .ref 171), (1, .ref 1), (0, .ref 0)], [], mc, ms) 1484 3 (fun _ => rfl) ?_
  exact hr
def pj_cs39 : pj_M := (pj_law.1, pj_law.2.1, 8, some .boolean, pj_law.2.2.2.2.1, [(1344, .aload_n 1, 1, [], 0), (1345, .aload_n 0, 1, [], 0), (1346, .iload 4, 2, [], 0), (1348, .iconst 1, 1, [], 0), (1349, .iadd, 1, [], 0), (1350, .iaload, 1, [], 0), (1351, .aload_n 0, 1, [], 0), (1352, .iload 4, 2, [], 0), (1354, .iconst 2, 1, [], 0), (1355, .iadd, 1, [], 0), (1356, .iaload, 1, [], 0), (1357, .invokevirtual 190, 3, [0, 3, 156, 11, 1217], 0), (1360, .pop, 1, [], 0), (1361, .aload_n 2, 1, [], 0), (1362, .aload_n 0, 1, [], 0), (1363, .iload 4, 2, [], 0), (1365, .iconst 1, 1, [], 0), (1366, .iadd, 1, [], 0), (1367, .iaload, 1, [], 0), (1368, .aload_n 0, 1, [], 0), (1369, .iload 4, 2, [], 0), (1371, .iconst 2, 1, [], 0), (1372, .iadd, 1, [], 0), (1373, .iaload, 1, [], 0), (1374, .invokevirtual 193, 3, [0, 3, 280, 12, 2017], 0), (1377, .pop, 1, [], 0), (1378, .goto 106, 3, [1484], 0)])
set_option maxRecDepth 100000 in
theorem pj_cs39_ok : pj_cs39.2.2.2.2.2.all (fun q => decide (pj_find pj_law.2.2.2.2.2 q.1 = some q.2)) = true := by decide +kernel
theorem pj_cs39_s : ∀ pc q, pj_find pj_cs39.2.2.2.2.2 pc = some q → pj_find pj_law.2.2.2.2.2 pc = some q := fun pc q hq => of_decide_eq_true (List.all_eq_true.mp pj_cs39_ok (pc, q) (pj_find_s hq))
set_option maxRecDepth 100000 in
set_option maxHeartbeats 8000000 in
theorem lw_39 {k : Nat} {xs : Nat → Int32} (hk : k ≤ 2560) (G : pj_G) (v4 : Int32) (hG : pj_LI v4.toInt G) (h0 : 0 ≤ v4.toInt) (h5 : v4.toInt + 5 ≤ k) (mc ms : Nat) : ∃ (G' : pj_G) (dc ds : Nat), pj_LI (v4.toInt + 5) G' ∧ dc ≤ 1 ∧ ds ≤ 6 ∧ ∀ r, pj_R pj_lz (k + 1) xs pj_law (G', 1484, [(4, .int v4), (3, .ref 203), (2, .ref 171), (1, .ref 1), (0, .ref 0)], [], mc + dc, ms + ds) r → pj_R pj_lz (k + 1) xs pj_law (G, 1344, [(4, .int v4), (3, .ref 203), (2, .ref 171), (1, .ref 1), (0, .ref 0)], [], mc, ms) r := by
  have ix1 : (v4 + Int32.ofInt 1).toInt = v4.toInt + 1 := pj_ix5 (by decide) h0 (by omega) (by decide) (by decide)
  have ix2 : (v4 + Int32.ofInt 2).toInt = v4.toInt + 2 := pj_ix5 (by decide) h0 (by omega) (by decide) (by decide)
  have ix3 : (v4 + Int32.ofInt 3).toInt = v4.toInt + 3 := pj_ix5 (by decide) h0 (by omega) (by decide) (by decide)
  have ix4 : (v4 + Int32.ofInt 4).toInt = v4.toInt + 4 := pj_ix5 (by decide) h0 (by omega) (by decide) (by decide)
  obtain ⟨hI, hR, hU, hT, hF, hN, hK, hE6⟩ := hG
  have hE1 := hT.1
  have hE2 := hT.2
  obtain ⟨v1, G1, q1, y1, rfl, i1, j1, -⟩ := ct_156 G hI (xs (v4 + Int32.ofInt 1).toNatClampNeg) (xs (v4 + Int32.ofInt 2).toNatClampNeg) 
  have g1 : ∀ b, 171 ≤ b → b < 203 → pj_get G1 b = pj_get G b := fun b h1 h2 => j1.2.1.1 b (pj_nc h1 h2 rfl)
  have hR1 : pj_RI G1 := pj_RI_g g1 hR
  have hU1 : (pj_fi G1 171 30).toInt ≤ 15 := pj_UN_g g1 hU
  obtain ⟨v2, G2, q2, y2, rfl, i2, j2, -⟩ := ct_280 G1 i1 (xs (v4 + Int32.ofInt 1).toNatClampNeg) (xs (v4 + Int32.ofInt 2).toNatClampNeg) 
  have a1 : (pj_fi G1 2 1).toInt = (pj_fi G 2 1).toInt := by rw [show pj_fi G1 2 1 = pj_fi G 2 1 from j1.1 (2, 1) (by decide)]
  have a2 : (pj_fi G1 171 16).toInt = (pj_fi G 171 16).toInt := by rw [pj_fi_g (g1 171 (by decide) (by decide))]
  have a3 : (pj_fi G2 2 1).toInt = (pj_fi G1 2 1).toInt := by rw [show pj_fi G2 2 1 = pj_fi G1 2 1 from j2.1 (2, 1) (by decide)]
  have a4 : (pj_fi G2 171 16).toInt = (pj_fi G1 171 16).toInt := by rw [show pj_fi G2 171 16 = pj_fi G1 171 16 from j2.1 (171, 16) (by decide)]
  refine ⟨G2, 0, 0, ⟨i2, (pj_RI_k hR1 j2 rfl), (by have q9 : pj_fi G2 171 30 = pj_fi G1 171 30 := j2.1 (171, 30) (by decide); rw [q9]; exact hU1), ⟨by omega, fun j hj => by rw [j2.2.2 3 (by decide) j, j2.2.2 180 (by decide) j, j1.2.2 3 (by decide) j, j1.2.2 180 (by decide) j]; exact hE2 j (by omega)⟩, mr_FR (mr_FX (mr_FG (mr_FC hF j1 rfl rfl) g1) j2 rfl rfl) j2 rfl, mr_Nk hN ((j2.1 (171, 7) (by decide)).trans (mr_gi (g1 171 (by decide) (by decide)))), mr_KR (mr_KX (mr_KG (mr_KC hK j1 rfl rfl) g1) j2 rfl rfl) j2 rfl, mr_En (mr_ER (mr_EC (mr_EG (mr_EC hE6 hI j1 rfl) i1 g1) i1 j2 rfl) i2 j2 rfl)⟩, by decide, by decide, fun r hr => ?_⟩
  refine pj_R_tz (M' := pj_cs39) rfl pj_cs39_s (G, 1350, [(4, .int v4), (3, .ref 203), (2, .ref 171), (1, .ref 1), (0, .ref 0)], [.int (v4 + (Int32.ofInt 1)), .ref 0, .ref 1], mc, ms) 1350 6 (fun _ => rfl) ?_
  refine pj_R_sl (pj_cs39_s _ _ rfl) (by omega) (by omega) ?_
  show pj_R _ _ _ _ (G, 1351, [(4, .int v4), (3, .ref 203), (2, .ref 171), (1, .ref 1), (0, .ref 0)], [.int (xs (v4 + (Int32.ofInt 1)).toNatClampNeg), .ref 1], mc, ms) _
  refine pj_R_tz (M' := pj_cs39) rfl pj_cs39_s (G, 1356, [(4, .int v4), (3, .ref 203), (2, .ref 171), (1, .ref 1), (0, .ref 0)], [.int (v4 + (Int32.ofInt 2)), .ref 0, .int (xs (v4 + (Int32.ofInt 1)).toNatClampNeg), .ref 1], mc, ms) 1356 5 (fun _ => rfl) ?_
  refine pj_R_sl (pj_cs39_s _ _ rfl) (by omega) (by omega) ?_
  show pj_R _ _ _ _ (G, 1357, [(4, .int v4), (3, .ref 203), (2, .ref 171), (1, .ref 1), (0, .ref 0)], [.int (xs (v4 + (Int32.ofInt 2)).toNatClampNeg), .int (xs (v4 + (Int32.ofInt 1)).toNatClampNeg), .ref 1], mc, ms) _
  refine pj_R_ca pj_lz_mon (vs := [.ref 1, .int (xs (v4 + (Int32.ofInt 1)).toNatClampNeg), .int (xs (v4 + (Int32.ofInt 2)).toNatClampNeg)]) (S2 := [.int y1]) (pj_cs39_s _ _ rfl) (fun _ => rfl) ⟨Nat.le_of_ble_eq_true rfl, Nat.le_of_ble_eq_true rfl, pj_T_rcv hI rfl⟩ ⟨rfl, rfl, rfl⟩ (pj_E_lz (by decide) (by decide) q1) ?_
  show pj_R _ _ _ _ (G1, 1360, [(4, .int v4), (3, .ref 203), (2, .ref 171), (1, .ref 1), (0, .ref 0)], [.int y1], mc, ms) _
  refine pj_R_tz (M' := pj_cs39) rfl pj_cs39_s (G1, 1367, [(4, .int v4), (3, .ref 203), (2, .ref 171), (1, .ref 1), (0, .ref 0)], [.int (v4 + (Int32.ofInt 1)), .ref 0, .ref 171], mc, ms) 1367 7 (fun _ => rfl) ?_
  refine pj_R_sl (pj_cs39_s _ _ rfl) (by omega) (by omega) ?_
  show pj_R _ _ _ _ (G1, 1368, [(4, .int v4), (3, .ref 203), (2, .ref 171), (1, .ref 1), (0, .ref 0)], [.int (xs (v4 + (Int32.ofInt 1)).toNatClampNeg), .ref 171], mc, ms) _
  refine pj_R_tz (M' := pj_cs39) rfl pj_cs39_s (G1, 1373, [(4, .int v4), (3, .ref 203), (2, .ref 171), (1, .ref 1), (0, .ref 0)], [.int (v4 + (Int32.ofInt 2)), .ref 0, .int (xs (v4 + (Int32.ofInt 1)).toNatClampNeg), .ref 171], mc, ms) 1373 5 (fun _ => rfl) ?_
  refine pj_R_sl (pj_cs39_s _ _ rfl) (by omega) (by omega) ?_
  show pj_R _ _ _ _ (G1, 1374, [(4, .int v4), (3, .ref 203), (2, .ref 171), (1, .ref 1), (0, .ref 0)], [.int (xs (v4 + (Int32.ofInt 2)).toNatClampNeg), .int (xs (v4 + (Int32.ofInt 1)).toNatClampNeg), .ref 171], mc, ms) _
  refine pj_R_ca pj_lz_mon (vs := [.ref 171, .int (xs (v4 + (Int32.ofInt 1)).toNatClampNeg), .int (xs (v4 + (Int32.ofInt 2)).toNatClampNeg)]) (S2 := [.int y2]) (pj_cs39_s _ _ rfl) (fun _ => rfl) ⟨Nat.le_of_ble_eq_true rfl, Nat.le_of_ble_eq_true rfl, pj_T_rcv i1 rfl⟩ ⟨rfl, rfl, rfl⟩ (pj_E_lz (by decide) (by decide) q2) ?_
  show pj_R _ _ _ _ (G2, 1377, [(4, .int v4), (3, .ref 203), (2, .ref 171), (1, .ref 1), (0, .ref 0)], [.int y2], mc, ms) _
  refine pj_R_tz (M' := pj_cs39) rfl pj_cs39_s (G2, 1484, [(4, .int v4), (3, .ref 203), (2, .ref 171), (1, .ref 1), (0, .ref 0)], [], mc, ms) 1484 3 (fun _ => rfl) ?_
  exact hr
def pj_cs40 : pj_M := (pj_law.1, pj_law.2.1, 8, some .boolean, pj_law.2.2.2.2.1, [(1381, .aload_n 1, 1, [], 0), (1382, .aload_n 0, 1, [], 0), (1383, .iload 4, 2, [], 0), (1385, .iconst 1, 1, [], 0), (1386, .iadd, 1, [], 0), (1387, .iaload, 1, [], 0), (1388, .invokevirtual 194, 3, [0, 2, 157, 11, 1243], 0), (1391, .pop, 1, [], 0), (1392, .aload_n 2, 1, [], 0), (1393, .aload_n 0, 1, [], 0), (1394, .iload 4, 2, [], 0), (1396, .iconst 1, 1, [], 0), (1397, .iadd, 1, [], 0), (1398, .iaload, 1, [], 0), (1399, .invokevirtual 197, 3, [0, 2, 281, 12, 2031], 0), (1402, .pop, 1, [], 0), (1403, .goto 81, 3, [1484], 0)])
set_option maxRecDepth 100000 in
theorem pj_cs40_ok : pj_cs40.2.2.2.2.2.all (fun q => decide (pj_find pj_law.2.2.2.2.2 q.1 = some q.2)) = true := by decide +kernel
theorem pj_cs40_s : ∀ pc q, pj_find pj_cs40.2.2.2.2.2 pc = some q → pj_find pj_law.2.2.2.2.2 pc = some q := fun pc q hq => of_decide_eq_true (List.all_eq_true.mp pj_cs40_ok (pc, q) (pj_find_s hq))
set_option maxRecDepth 100000 in
set_option maxHeartbeats 8000000 in
theorem lw_40 {k : Nat} {xs : Nat → Int32} (hk : k ≤ 2560) (G : pj_G) (v4 : Int32) (hG : pj_LI v4.toInt G) (h0 : 0 ≤ v4.toInt) (h5 : v4.toInt + 5 ≤ k) (mc ms : Nat) : ∃ (G' : pj_G) (dc ds : Nat), pj_LI (v4.toInt + 5) G' ∧ dc ≤ 1 ∧ ds ≤ 6 ∧ ∀ r, pj_R pj_lz (k + 1) xs pj_law (G', 1484, [(4, .int v4), (3, .ref 203), (2, .ref 171), (1, .ref 1), (0, .ref 0)], [], mc + dc, ms + ds) r → pj_R pj_lz (k + 1) xs pj_law (G, 1381, [(4, .int v4), (3, .ref 203), (2, .ref 171), (1, .ref 1), (0, .ref 0)], [], mc, ms) r := by
  have ix1 : (v4 + Int32.ofInt 1).toInt = v4.toInt + 1 := pj_ix5 (by decide) h0 (by omega) (by decide) (by decide)
  have ix2 : (v4 + Int32.ofInt 2).toInt = v4.toInt + 2 := pj_ix5 (by decide) h0 (by omega) (by decide) (by decide)
  have ix3 : (v4 + Int32.ofInt 3).toInt = v4.toInt + 3 := pj_ix5 (by decide) h0 (by omega) (by decide) (by decide)
  have ix4 : (v4 + Int32.ofInt 4).toInt = v4.toInt + 4 := pj_ix5 (by decide) h0 (by omega) (by decide) (by decide)
  obtain ⟨hI, hR, hU, hT, hF, hN, hK, hE6⟩ := hG
  have hE1 := hT.1
  have hE2 := hT.2
  obtain ⟨v1, G1, q1, y1, rfl, i1, j1, -, e1, f1⟩ := ct_157nx G hI (xs (v4 + Int32.ofInt 1).toNatClampNeg) 
  replace e1 := e1 _ rfl
  have g1 : ∀ b, 171 ≤ b → b < 203 → pj_get G1 b = pj_get G b := fun b h1 h2 => j1.2.1.1 b (pj_nc h1 h2 rfl)
  have hR1 : pj_RI G1 := pj_RI_g g1 hR
  have hU1 : (pj_fi G1 171 30).toInt ≤ 15 := pj_UN_g g1 hU
  obtain ⟨v2, G2, q2, y2, rfl, i2, j2, -, f2⟩ := ct_281x G1 i1 (xs (v4 + Int32.ofInt 1).toNatClampNeg) 
  have a1 : (pj_fi G1 2 1).toInt = (pj_fi G 2 1).toInt := by rw [show pj_fi G1 2 1 = pj_fi G 2 1 from j1.1 (2, 1) (by decide)]
  have a2 : (pj_fi G1 171 16).toInt = (pj_fi G 171 16).toInt := by rw [pj_fi_g (g1 171 (by decide) (by decide))]
  have a3 : (pj_fi G2 2 1).toInt = (pj_fi G1 2 1).toInt := by rw [show pj_fi G2 2 1 = pj_fi G1 2 1 from j2.1 (2, 1) (by decide)]
  have a4 : (pj_fi G2 171 16).toInt = (pj_fi G1 171 16).toInt := by rw [show pj_fi G2 171 16 = pj_fi G1 171 16 from j2.1 (171, 16) (by decide)]
  refine ⟨G2, 0, 0, ⟨i2, (pj_RI_k hR1 j2 rfl), (by have q9 : pj_fi G2 171 30 = pj_fi G1 171 30 := j2.1 (171, 30) (by decide); rw [q9]; exact hU1), ⟨by omega, fun j hj => by rw [j2.2.2 3 (by decide) j, j2.2.2 180 (by decide) j, j1.2.2 3 (by decide) j, j1.2.2 180 (by decide) j]; exact hE2 j (by omega)⟩, mr_FR (mr_FX (mr_FG (mr_FC hF j1 rfl rfl) g1) j2 rfl rfl) j2 rfl, mr_Nk hN ((j2.1 (171, 7) (by decide)).trans (mr_gi (g1 171 (by decide) (by decide)))), mr_KX (mr_Kn (mr_KG hK g1) e1 (by rw [j1.1 (21, 0) (by decide)]) (by rw [j1.1 (21, 5) (by decide)]) i1 (by rw [← f2])).2 j2 rfl rfl, mr_EC (by have z := (mr_e40 hI i1 (mr_EG hE6 hI g1) (xs (v4 + Int32.ofInt 1).toNatClampNeg)); rw [← f1] at z; dsimp only at z; rw [← f2] at z; exact z) i1 j2 rfl⟩, by decide, by decide, fun r hr => ?_⟩
  refine pj_R_tz (M' := pj_cs40) rfl pj_cs40_s (G, 1387, [(4, .int v4), (3, .ref 203), (2, .ref 171), (1, .ref 1), (0, .ref 0)], [.int (v4 + (Int32.ofInt 1)), .ref 0, .ref 1], mc, ms) 1387 6 (fun _ => rfl) ?_
  refine pj_R_sl (pj_cs40_s _ _ rfl) (by omega) (by omega) ?_
  show pj_R _ _ _ _ (G, 1388, [(4, .int v4), (3, .ref 203), (2, .ref 171), (1, .ref 1), (0, .ref 0)], [.int (xs (v4 + (Int32.ofInt 1)).toNatClampNeg), .ref 1], mc, ms) _
  refine pj_R_ca pj_lz_mon (vs := [.ref 1, .int (xs (v4 + (Int32.ofInt 1)).toNatClampNeg)]) (S2 := [.int y1]) (pj_cs40_s _ _ rfl) (fun _ => rfl) ⟨Nat.le_of_ble_eq_true rfl, Nat.le_of_ble_eq_true rfl, pj_T_rcv hI rfl⟩ ⟨rfl, rfl, rfl⟩ (pj_E_lz (by decide) (by decide) q1) ?_
  show pj_R _ _ _ _ (G1, 1391, [(4, .int v4), (3, .ref 203), (2, .ref 171), (1, .ref 1), (0, .ref 0)], [.int y1], mc, ms) _
  refine pj_R_tz (M' := pj_cs40) rfl pj_cs40_s (G1, 1398, [(4, .int v4), (3, .ref 203), (2, .ref 171), (1, .ref 1), (0, .ref 0)], [.int (v4 + (Int32.ofInt 1)), .ref 0, .ref 171], mc, ms) 1398 7 (fun _ => rfl) ?_
  refine pj_R_sl (pj_cs40_s _ _ rfl) (by omega) (by omega) ?_
  show pj_R _ _ _ _ (G1, 1399, [(4, .int v4), (3, .ref 203), (2, .ref 171), (1, .ref 1), (0, .ref 0)], [.int (xs (v4 + (Int32.ofInt 1)).toNatClampNeg), .ref 171], mc, ms) _
  refine pj_R_ca pj_lz_mon (vs := [.ref 171, .int (xs (v4 + (Int32.ofInt 1)).toNatClampNeg)]) (S2 := [.int y2]) (pj_cs40_s _ _ rfl) (fun _ => rfl) ⟨Nat.le_of_ble_eq_true rfl, Nat.le_of_ble_eq_true rfl, pj_T_rcv i1 rfl⟩ ⟨rfl, rfl, rfl⟩ (pj_E_lz (by decide) (by decide) q2) ?_
  show pj_R _ _ _ _ (G2, 1402, [(4, .int v4), (3, .ref 203), (2, .ref 171), (1, .ref 1), (0, .ref 0)], [.int y2], mc, ms) _
  refine pj_R_tz (M' := pj_cs40) rfl pj_cs40_s (G2, 1484, [(4, .int v4), (3, .ref 203), (2, .ref 171), (1, .ref 1), (0, .ref 0)], [], mc, ms) 1484 3 (fun _ => rfl) ?_
  exact hr
def pj_cs41 : pj_M := (pj_law.1, pj_law.2.1, 8, some .boolean, pj_law.2.2.2.2.1, [(1406, .aload_n 1, 1, [], 0), (1407, .aload_n 0, 1, [], 0), (1408, .iload 4, 2, [], 0), (1410, .iconst 1, 1, [], 0), (1411, .iadd, 1, [], 0), (1412, .iaload, 1, [], 0), (1413, .invokevirtual 198, 3, [0, 2, 158, 11, 1251], 0), (1416, .pop, 1, [], 0), (1417, .aload_n 2, 1, [], 0), (1418, .aload_n 0, 1, [], 0), (1419, .iload 4, 2, [], 0), (1421, .iconst 1, 1, [], 0), (1422, .iadd, 1, [], 0), (1423, .iaload, 1, [], 0), (1424, .invokevirtual 201, 3, [0, 2, 282, 12, 2036], 0), (1427, .pop, 1, [], 0), (1428, .goto 56, 3, [1484], 0)])
set_option maxRecDepth 100000 in
theorem pj_cs41_ok : pj_cs41.2.2.2.2.2.all (fun q => decide (pj_find pj_law.2.2.2.2.2 q.1 = some q.2)) = true := by decide +kernel
theorem pj_cs41_s : ∀ pc q, pj_find pj_cs41.2.2.2.2.2 pc = some q → pj_find pj_law.2.2.2.2.2 pc = some q := fun pc q hq => of_decide_eq_true (List.all_eq_true.mp pj_cs41_ok (pc, q) (pj_find_s hq))
set_option maxRecDepth 100000 in
set_option maxHeartbeats 8000000 in
theorem lw_41 {k : Nat} {xs : Nat → Int32} (hk : k ≤ 2560) (G : pj_G) (v4 : Int32) (hG : pj_LI v4.toInt G) (h0 : 0 ≤ v4.toInt) (h5 : v4.toInt + 5 ≤ k) (mc ms : Nat) : ∃ (G' : pj_G) (dc ds : Nat), pj_LI (v4.toInt + 5) G' ∧ dc ≤ 1 ∧ ds ≤ 6 ∧ ∀ r, pj_R pj_lz (k + 1) xs pj_law (G', 1484, [(4, .int v4), (3, .ref 203), (2, .ref 171), (1, .ref 1), (0, .ref 0)], [], mc + dc, ms + ds) r → pj_R pj_lz (k + 1) xs pj_law (G, 1406, [(4, .int v4), (3, .ref 203), (2, .ref 171), (1, .ref 1), (0, .ref 0)], [], mc, ms) r := by
  have ix1 : (v4 + Int32.ofInt 1).toInt = v4.toInt + 1 := pj_ix5 (by decide) h0 (by omega) (by decide) (by decide)
  have ix2 : (v4 + Int32.ofInt 2).toInt = v4.toInt + 2 := pj_ix5 (by decide) h0 (by omega) (by decide) (by decide)
  have ix3 : (v4 + Int32.ofInt 3).toInt = v4.toInt + 3 := pj_ix5 (by decide) h0 (by omega) (by decide) (by decide)
  have ix4 : (v4 + Int32.ofInt 4).toInt = v4.toInt + 4 := pj_ix5 (by decide) h0 (by omega) (by decide) (by decide)
  obtain ⟨hI, hR, hU, hT, hF, hN, hK, hE6⟩ := hG
  have hE1 := hT.1
  have hE2 := hT.2
  obtain ⟨v1, G1, q1, y1, rfl, i1, j1, -, e1, f1⟩ := ct_158nx G hI (xs (v4 + Int32.ofInt 1).toNatClampNeg) 
  replace e1 := e1 _ rfl
  have g1 : ∀ b, 171 ≤ b → b < 203 → pj_get G1 b = pj_get G b := fun b h1 h2 => j1.2.1.1 b (pj_nc h1 h2 rfl)
  have hR1 : pj_RI G1 := pj_RI_g g1 hR
  have hU1 : (pj_fi G1 171 30).toInt ≤ 15 := pj_UN_g g1 hU
  obtain ⟨v2, G2, q2, y2, rfl, i2, j2, -, e2, f2⟩ := ct_282x G1 i1 (xs (v4 + Int32.ofInt 1).toNatClampNeg) hU1
  have a1 : (pj_fi G1 2 1).toInt = (pj_fi G 2 1).toInt := by rw [show pj_fi G1 2 1 = pj_fi G 2 1 from j1.1 (2, 1) (by decide)]
  have a2 : (pj_fi G1 171 16).toInt = (pj_fi G 171 16).toInt := by rw [pj_fi_g (g1 171 (by decide) (by decide))]
  have a3 : (pj_fi G2 2 1).toInt = (pj_fi G1 2 1).toInt := by rw [show pj_fi G2 2 1 = pj_fi G1 2 1 from j2.1 (2, 1) (by decide)]
  have a4 : (pj_fi G2 171 16).toInt = (pj_fi G1 171 16).toInt := by rw [show pj_fi G2 171 16 = pj_fi G1 171 16 from j2.1 (171, 16) (by decide)]
  refine ⟨G2, 0, 0, ⟨i2, (pj_RI_k hR1 j2 rfl), (by omega), ⟨by omega, fun j hj => by rw [j2.2.2 3 (by decide) j, j2.2.2 180 (by decide) j, j1.2.2 3 (by decide) j, j1.2.2 180 (by decide) j]; exact hE2 j (by omega)⟩, mr_FR (mr_FX (mr_FG (mr_FP hF j1 rfl e1.2) g1) j2 rfl rfl) j2 rfl, mr_Nk hN ((j2.1 (171, 7) (by decide)).trans (mr_gi (g1 171 (by decide) (by decide)))), mr_KR (mr_KX (mr_KG (mr_KP hK j1 rfl (e1.2 hF.2.1).2.1 (e1.2 hF.2.1).2.2) g1) j2 rfl rfl) j2 rfl, mr_EC (by have z := (mr_e41 hI i1 hU1 (mr_KG hK g1) (mr_EG hE6 hI g1) (xs (v4 + Int32.ofInt 1).toNatClampNeg)); rw [← f1] at z; dsimp only at z; rw [← f2] at z; exact z) i1 j2 rfl⟩, by decide, by decide, fun r hr => ?_⟩
  refine pj_R_tz (M' := pj_cs41) rfl pj_cs41_s (G, 1412, [(4, .int v4), (3, .ref 203), (2, .ref 171), (1, .ref 1), (0, .ref 0)], [.int (v4 + (Int32.ofInt 1)), .ref 0, .ref 1], mc, ms) 1412 6 (fun _ => rfl) ?_
  refine pj_R_sl (pj_cs41_s _ _ rfl) (by omega) (by omega) ?_
  show pj_R _ _ _ _ (G, 1413, [(4, .int v4), (3, .ref 203), (2, .ref 171), (1, .ref 1), (0, .ref 0)], [.int (xs (v4 + (Int32.ofInt 1)).toNatClampNeg), .ref 1], mc, ms) _
  refine pj_R_ca pj_lz_mon (vs := [.ref 1, .int (xs (v4 + (Int32.ofInt 1)).toNatClampNeg)]) (S2 := [.int y1]) (pj_cs41_s _ _ rfl) (fun _ => rfl) ⟨Nat.le_of_ble_eq_true rfl, Nat.le_of_ble_eq_true rfl, pj_T_rcv hI rfl⟩ ⟨rfl, rfl, rfl⟩ (pj_E_lz (by decide) (by decide) q1) ?_
  show pj_R _ _ _ _ (G1, 1416, [(4, .int v4), (3, .ref 203), (2, .ref 171), (1, .ref 1), (0, .ref 0)], [.int y1], mc, ms) _
  refine pj_R_tz (M' := pj_cs41) rfl pj_cs41_s (G1, 1423, [(4, .int v4), (3, .ref 203), (2, .ref 171), (1, .ref 1), (0, .ref 0)], [.int (v4 + (Int32.ofInt 1)), .ref 0, .ref 171], mc, ms) 1423 7 (fun _ => rfl) ?_
  refine pj_R_sl (pj_cs41_s _ _ rfl) (by omega) (by omega) ?_
  show pj_R _ _ _ _ (G1, 1424, [(4, .int v4), (3, .ref 203), (2, .ref 171), (1, .ref 1), (0, .ref 0)], [.int (xs (v4 + (Int32.ofInt 1)).toNatClampNeg), .ref 171], mc, ms) _
  refine pj_R_ca pj_lz_mon (vs := [.ref 171, .int (xs (v4 + (Int32.ofInt 1)).toNatClampNeg)]) (S2 := [.int y2]) (pj_cs41_s _ _ rfl) (fun _ => rfl) ⟨Nat.le_of_ble_eq_true rfl, Nat.le_of_ble_eq_true rfl, pj_T_rcv i1 rfl⟩ ⟨rfl, rfl, rfl⟩ (pj_E_lz (by decide) (by decide) q2) ?_
  show pj_R _ _ _ _ (G2, 1427, [(4, .int v4), (3, .ref 203), (2, .ref 171), (1, .ref 1), (0, .ref 0)], [.int y2], mc, ms) _
  refine pj_R_tz (M' := pj_cs41) rfl pj_cs41_s (G2, 1484, [(4, .int v4), (3, .ref 203), (2, .ref 171), (1, .ref 1), (0, .ref 0)], [], mc, ms) 1484 3 (fun _ => rfl) ?_
  exact hr
def pj_cs42 : pj_M := (pj_law.1, pj_law.2.1, 8, some .boolean, pj_law.2.2.2.2.1, [(1431, .aload_n 1, 1, [], 0), (1432, .aload_n 0, 1, [], 0), (1433, .iload 4, 2, [], 0), (1435, .iconst 1, 1, [], 0), (1436, .iadd, 1, [], 0), (1437, .iaload, 1, [], 0), (1438, .invokevirtual 202, 3, [0, 2, 159, 11, 1259], 0), (1441, .pop, 1, [], 0), (1442, .aload_n 2, 1, [], 0), (1443, .aload_n 0, 1, [], 0), (1444, .iload 4, 2, [], 0), (1446, .iconst 1, 1, [], 0), (1447, .iadd, 1, [], 0), (1448, .iaload, 1, [], 0), (1449, .invokevirtual 205, 3, [0, 2, 284, 12, 2040], 0), (1452, .pop, 1, [], 0), (1453, .goto 31, 3, [1484], 0)])
set_option maxRecDepth 100000 in
theorem pj_cs42_ok : pj_cs42.2.2.2.2.2.all (fun q => decide (pj_find pj_law.2.2.2.2.2 q.1 = some q.2)) = true := by decide +kernel
theorem pj_cs42_s : ∀ pc q, pj_find pj_cs42.2.2.2.2.2 pc = some q → pj_find pj_law.2.2.2.2.2 pc = some q := fun pc q hq => of_decide_eq_true (List.all_eq_true.mp pj_cs42_ok (pc, q) (pj_find_s hq))
set_option maxRecDepth 100000 in
set_option maxHeartbeats 8000000 in
theorem lw_42 {k : Nat} {xs : Nat → Int32} (hk : k ≤ 2560) (G : pj_G) (v4 : Int32) (hG : pj_LI v4.toInt G) (h0 : 0 ≤ v4.toInt) (h5 : v4.toInt + 5 ≤ k) (mc ms : Nat) : ∃ (G' : pj_G) (dc ds : Nat), pj_LI (v4.toInt + 5) G' ∧ dc ≤ 1 ∧ ds ≤ 6 ∧ ∀ r, pj_R pj_lz (k + 1) xs pj_law (G', 1484, [(4, .int v4), (3, .ref 203), (2, .ref 171), (1, .ref 1), (0, .ref 0)], [], mc + dc, ms + ds) r → pj_R pj_lz (k + 1) xs pj_law (G, 1431, [(4, .int v4), (3, .ref 203), (2, .ref 171), (1, .ref 1), (0, .ref 0)], [], mc, ms) r := by
  have ix1 : (v4 + Int32.ofInt 1).toInt = v4.toInt + 1 := pj_ix5 (by decide) h0 (by omega) (by decide) (by decide)
  have ix2 : (v4 + Int32.ofInt 2).toInt = v4.toInt + 2 := pj_ix5 (by decide) h0 (by omega) (by decide) (by decide)
  have ix3 : (v4 + Int32.ofInt 3).toInt = v4.toInt + 3 := pj_ix5 (by decide) h0 (by omega) (by decide) (by decide)
  have ix4 : (v4 + Int32.ofInt 4).toInt = v4.toInt + 4 := pj_ix5 (by decide) h0 (by omega) (by decide) (by decide)
  obtain ⟨hI, hR, hU, hT, hF, hN, hK, hE6⟩ := hG
  have hE1 := hT.1
  have hE2 := hT.2
  obtain ⟨v1, G1, q1, y1, rfl, rfl, -⟩ := ct_159 G hI (xs (v4 + Int32.ofInt 1).toNatClampNeg) 
  have i1 := hI
  have g1 : ∀ b, 171 ≤ b → b < 203 → pj_get G b = pj_get G b := fun b h1 h2 => rfl
  have hR1 : pj_RI G := pj_RI_g g1 hR
  have hU1 : (pj_fi G 171 30).toInt ≤ 15 := pj_UN_g g1 hU
  obtain ⟨v2, G2, q2, y2, rfl, i2, j2, -⟩ := ct_284 G i1 (xs (v4 + Int32.ofInt 1).toNatClampNeg) 
  have a2 : (pj_fi G 171 16).toInt = (pj_fi G 171 16).toInt := by rw [pj_fi_g (g1 171 (by decide) (by decide))]
  have a3 : (pj_fi G2 2 1).toInt = (pj_fi G 2 1).toInt := by rw [show pj_fi G2 2 1 = pj_fi G 2 1 from j2.1 (2, 1) (by decide)]
  have a4 : (pj_fi G2 171 16).toInt = (pj_fi G 171 16).toInt := by rw [show pj_fi G2 171 16 = pj_fi G 171 16 from j2.1 (171, 16) (by decide)]
  refine ⟨G2, 0, 0, ⟨i2, (pj_RI_k hR1 j2 rfl), (by have q9 : pj_fi G2 171 30 = pj_fi G 171 30 := j2.1 (171, 30) (by decide); rw [q9]; exact hU1), ⟨by omega, fun j hj => by rw [j2.2.2 3 (by decide) j, j2.2.2 180 (by decide) j]; exact hE2 j (by omega)⟩, mr_FR (mr_FX (hF) j2 rfl rfl) j2 rfl, mr_Nk hN ((j2.1 (171, 7) (by decide)).trans (mr_gi (g1 171 (by decide) (by decide)))), mr_KR (mr_KX (hK) j2 rfl rfl) j2 rfl, mr_En (mr_ER (mr_EC (hE6) i1 j2 rfl) i2 j2 rfl)⟩, by decide, by decide, fun r hr => ?_⟩
  refine pj_R_tz (M' := pj_cs42) rfl pj_cs42_s (G, 1437, [(4, .int v4), (3, .ref 203), (2, .ref 171), (1, .ref 1), (0, .ref 0)], [.int (v4 + (Int32.ofInt 1)), .ref 0, .ref 1], mc, ms) 1437 6 (fun _ => rfl) ?_
  refine pj_R_sl (pj_cs42_s _ _ rfl) (by omega) (by omega) ?_
  show pj_R _ _ _ _ (G, 1438, [(4, .int v4), (3, .ref 203), (2, .ref 171), (1, .ref 1), (0, .ref 0)], [.int (xs (v4 + (Int32.ofInt 1)).toNatClampNeg), .ref 1], mc, ms) _
  refine pj_R_ca pj_lz_mon (vs := [.ref 1, .int (xs (v4 + (Int32.ofInt 1)).toNatClampNeg)]) (S2 := [.int y1]) (pj_cs42_s _ _ rfl) (fun _ => rfl) ⟨Nat.le_of_ble_eq_true rfl, Nat.le_of_ble_eq_true rfl, pj_T_rcv hI rfl⟩ ⟨rfl, rfl, rfl⟩ (pj_E_lz (by decide) (by decide) q1) ?_
  show pj_R _ _ _ _ (G, 1441, [(4, .int v4), (3, .ref 203), (2, .ref 171), (1, .ref 1), (0, .ref 0)], [.int y1], mc, ms) _
  refine pj_R_tz (M' := pj_cs42) rfl pj_cs42_s (G, 1448, [(4, .int v4), (3, .ref 203), (2, .ref 171), (1, .ref 1), (0, .ref 0)], [.int (v4 + (Int32.ofInt 1)), .ref 0, .ref 171], mc, ms) 1448 7 (fun _ => rfl) ?_
  refine pj_R_sl (pj_cs42_s _ _ rfl) (by omega) (by omega) ?_
  show pj_R _ _ _ _ (G, 1449, [(4, .int v4), (3, .ref 203), (2, .ref 171), (1, .ref 1), (0, .ref 0)], [.int (xs (v4 + (Int32.ofInt 1)).toNatClampNeg), .ref 171], mc, ms) _
  refine pj_R_ca pj_lz_mon (vs := [.ref 171, .int (xs (v4 + (Int32.ofInt 1)).toNatClampNeg)]) (S2 := [.int y2]) (pj_cs42_s _ _ rfl) (fun _ => rfl) ⟨Nat.le_of_ble_eq_true rfl, Nat.le_of_ble_eq_true rfl, pj_T_rcv i1 rfl⟩ ⟨rfl, rfl, rfl⟩ (pj_E_lz (by decide) (by decide) q2) ?_
  show pj_R _ _ _ _ (G2, 1452, [(4, .int v4), (3, .ref 203), (2, .ref 171), (1, .ref 1), (0, .ref 0)], [.int y2], mc, ms) _
  refine pj_R_tz (M' := pj_cs42) rfl pj_cs42_s (G2, 1484, [(4, .int v4), (3, .ref 203), (2, .ref 171), (1, .ref 1), (0, .ref 0)], [], mc, ms) 1484 3 (fun _ => rfl) ?_
  exact hr
def pj_cs43 : pj_M := (pj_law.1, pj_law.2.1, 8, some .boolean, pj_law.2.2.2.2.1, [(1456, .aload_n 1, 1, [], 0), (1457, .aload_n 0, 1, [], 0), (1458, .iload 4, 2, [], 0), (1460, .iconst 1, 1, [], 0), (1461, .iadd, 1, [], 0), (1462, .iaload, 1, [], 0), (1463, .aload_n 3, 1, [], 0), (1464, .invokestatic 206, 3, [9, 3, 1003, 0, 1366, 1367, 86, 1368], 0), (1467, .istore 5, 2, [], 0), (1469, .aload_n 2, 1, [], 0), (1470, .aload_n 0, 1, [], 0), (1471, .iload 4, 2, [], 0), (1473, .iconst 1, 1, [], 0), (1474, .iadd, 1, [], 0), (1475, .iaload, 1, [], 0), (1476, .invokevirtual 209, 3, [0, 2, 285, 12, 2048], 0), (1479, .lstore 6, 2, [], 0), (1481, .goto 3, 3, [1484], 0)])
set_option maxRecDepth 100000 in
theorem pj_cs43_ok : pj_cs43.2.2.2.2.2.all (fun q => decide (pj_find pj_law.2.2.2.2.2 q.1 = some q.2)) = true := by decide +kernel
theorem pj_cs43_s : ∀ pc q, pj_find pj_cs43.2.2.2.2.2 pc = some q → pj_find pj_law.2.2.2.2.2 pc = some q := fun pc q hq => of_decide_eq_true (List.all_eq_true.mp pj_cs43_ok (pc, q) (pj_find_s hq))
set_option maxRecDepth 100000 in
set_option maxHeartbeats 8000000 in
theorem lw_43 {k : Nat} {xs : Nat → Int32} (hk : k ≤ 2560) (G : pj_G) (v4 : Int32) (hG : pj_LI v4.toInt G) (h0 : 0 ≤ v4.toInt) (h5 : v4.toInt + 5 ≤ k) (mc ms : Nat) : ∃ (G' : pj_G) (dc ds : Nat), pj_LI (v4.toInt + 5) G' ∧ dc ≤ 1 ∧ ds ≤ 6 ∧ ∀ r, pj_R pj_lz (k + 1) xs pj_law (G', 1484, [(4, .int v4), (3, .ref 203), (2, .ref 171), (1, .ref 1), (0, .ref 0)], [], mc + dc, ms + ds) r → pj_R pj_lz (k + 1) xs pj_law (G, 1456, [(4, .int v4), (3, .ref 203), (2, .ref 171), (1, .ref 1), (0, .ref 0)], [], mc, ms) r := by
  have ix1 : (v4 + Int32.ofInt 1).toInt = v4.toInt + 1 := pj_ix5 (by decide) h0 (by omega) (by decide) (by decide)
  have ix2 : (v4 + Int32.ofInt 2).toInt = v4.toInt + 2 := pj_ix5 (by decide) h0 (by omega) (by decide) (by decide)
  have ix3 : (v4 + Int32.ofInt 3).toInt = v4.toInt + 3 := pj_ix5 (by decide) h0 (by omega) (by decide) (by decide)
  have ix4 : (v4 + Int32.ofInt 4).toInt = v4.toInt + 4 := pj_ix5 (by decide) h0 (by omega) (by decide) (by decide)
  obtain ⟨hI, hR, hU, hT, hF, hN, hK, hE6⟩ := hG
  have hE1 := hT.1
  have hE2 := hT.2
  obtain ⟨y1, G1, dc, ds, z1, i1, j1, hdc, hds⟩ := pj_hz3 G hI (xs (v4 + Int32.ofInt 1).toNatClampNeg)
  have g1 : ∀ b, 171 ≤ b → b < 203 → pj_get G1 b = pj_get G b := fun b h1 h2 => j1.2.1.1 b (pj_nc h1 h2 rfl)
  have hR1 : pj_RI G1 := pj_RI_g g1 hR
  have hU1 : (pj_fi G1 171 30).toInt ≤ 15 := pj_UN_g g1 hU
  obtain ⟨v2, G2, q2, y2, rfl, i2, j2⟩ := ct_285 G1 i1 (xs (v4 + Int32.ofInt 1).toNatClampNeg) 
  have a1 : (pj_fi G1 2 1).toInt = (pj_fi G 2 1).toInt := by rw [show pj_fi G1 2 1 = pj_fi G 2 1 from j1.1 (2, 1) (by decide)]
  have a2 : (pj_fi G1 171 16).toInt = (pj_fi G 171 16).toInt := by rw [pj_fi_g (g1 171 (by decide) (by decide))]
  have a3 : (pj_fi G2 2 1).toInt = (pj_fi G1 2 1).toInt := by rw [show pj_fi G2 2 1 = pj_fi G1 2 1 from j2.1 (2, 1) (by decide)]
  have a4 : (pj_fi G2 171 16).toInt = (pj_fi G1 171 16).toInt := by rw [show pj_fi G2 171 16 = pj_fi G1 171 16 from j2.1 (171, 16) (by decide)]
  refine ⟨G2, dc, ds, ⟨i2, (pj_RI_k hR1 j2 rfl), (by have q9 : pj_fi G2 171 30 = pj_fi G1 171 30 := j2.1 (171, 30) (by decide); rw [q9]; exact hU1), ⟨by omega, fun j hj => by rw [j2.2.2 3 (by decide) j, j2.2.2 180 (by decide) j, j1.2.2 3 (by decide) j, j1.2.2 180 (by decide) j]; exact hE2 j (by omega)⟩, mr_FR (mr_FX (mr_FG (mr_FC hF j1 rfl rfl) g1) j2 rfl rfl) j2 rfl, mr_Nk hN ((j2.1 (171, 7) (by decide)).trans (mr_gi (g1 171 (by decide) (by decide)))), mr_KR (mr_KX (mr_KG (mr_KC hK j1 rfl rfl) g1) j2 rfl rfl) j2 rfl, mr_En (mr_ER (mr_EC (mr_EG (mr_EC hE6 hI j1 rfl) i1 g1) i1 j2 rfl) i2 j2 rfl)⟩, hdc, hds, fun r hr => ?_⟩
  refine pj_R_tz (M' := pj_cs43) rfl pj_cs43_s (G, 1462, [(4, .int v4), (3, .ref 203), (2, .ref 171), (1, .ref 1), (0, .ref 0)], [.int (v4 + (Int32.ofInt 1)), .ref 0, .ref 1], mc, ms) 1462 6 (fun _ => rfl) ?_
  refine pj_R_sl (pj_cs43_s _ _ rfl) (by omega) (by omega) ?_
  show pj_R _ _ _ _ (G, 1463, [(4, .int v4), (3, .ref 203), (2, .ref 171), (1, .ref 1), (0, .ref 0)], [.int (xs (v4 + (Int32.ofInt 1)).toNatClampNeg), .ref 1], mc, ms) _
  refine pj_R_tz (M' := pj_cs43) rfl pj_cs43_s (G, 1464, [(4, .int v4), (3, .ref 203), (2, .ref 171), (1, .ref 1), (0, .ref 0)], [.ref 203, .int (xs (v4 + (Int32.ofInt 1)).toNatClampNeg), .ref 1], mc, ms) 1464 2 (fun _ => rfl) ?_
  refine pj_R_ca pj_lz_mon (vs := [.ref 1, .int (xs (v4 + (Int32.ofInt 1)).toNatClampNeg), .ref 203]) (S2 := [.int y1]) (pj_cs43_s _ _ rfl) (fun _ => rfl) ⟨Nat.le_of_ble_eq_true rfl, Nat.le_of_ble_eq_true rfl, rfl⟩ ⟨rfl, rfl, rfl⟩ (⟨0, (pj_lz_hi 0 3 _ _).trans z1⟩) ?_
  show pj_R _ _ _ _ (G1, 1467, [(4, .int v4), (3, .ref 203), (2, .ref 171), (1, .ref 1), (0, .ref 0)], [.int y1], mc + dc, ms + ds) _
  refine pj_R_tz (M' := pj_cs43) rfl pj_cs43_s (G1, 1475, [(5, .int y1), (4, .int v4), (3, .ref 203), (2, .ref 171), (1, .ref 1), (0, .ref 0)], [.int (v4 + (Int32.ofInt 1)), .ref 0, .ref 171], mc + dc, ms + ds) 1475 7 (fun _ => rfl) ?_
  refine pj_R_sl (pj_cs43_s _ _ rfl) (by omega) (by omega) ?_
  show pj_R _ _ _ _ (G1, 1476, [(5, .int y1), (4, .int v4), (3, .ref 203), (2, .ref 171), (1, .ref 1), (0, .ref 0)], [.int (xs (v4 + (Int32.ofInt 1)).toNatClampNeg), .ref 171], mc + dc, ms + ds) _
  refine pj_R_ca pj_lz_mon (vs := [.ref 171, .int (xs (v4 + (Int32.ofInt 1)).toNatClampNeg)]) (S2 := [.long y2]) (pj_cs43_s _ _ rfl) (fun _ => rfl) ⟨Nat.le_of_ble_eq_true rfl, Nat.le_of_ble_eq_true rfl, pj_T_rcv i1 rfl⟩ ⟨rfl, rfl, rfl⟩ (pj_E_lz (by decide) (by decide) q2) ?_
  show pj_R _ _ _ _ (G2, 1479, [(5, .int y1), (4, .int v4), (3, .ref 203), (2, .ref 171), (1, .ref 1), (0, .ref 0)], [.long y2], mc + dc, ms + ds) _
  refine pj_R_tz (M' := pj_cs43) rfl pj_cs43_s (G2, 1484, [(6, .long y2), (5, .int y1), (4, .int v4), (3, .ref 203), (2, .ref 171), (1, .ref 1), (0, .ref 0)], [], mc + dc, ms + ds) 1484 3 (fun _ => rfl) ?_
  exact pj_R_loc (A := [(4, .int v4), (3, .ref 203), (2, .ref 171), (1, .ref 1), (0, .ref 0)]) (show List.Nodup [4, 3, 2, 1, 0] by decide) ⟨rfl, rfl, rfl, rfl, rfl, trivial⟩ hr
