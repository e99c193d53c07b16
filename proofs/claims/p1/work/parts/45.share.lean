/-! THE LAW'S CASES share AND turn -/
noncomputable def pj_t0c : Bool := match pj_t0.2.2.1 with
  | [(4, .int _), (3, .ref _), (2, .ref am), (1, .ref ax), (0, .ref _)] => (match pj_get pj_t0.1 ax with
    | some (.inr (cx, fx)) => (match pj_get pj_t0.1 am with
      | some (.inr (cm, fm)) => (match (fx[1]? : Option Value) with
        | some (.ref o) => (match (fm[2]? : Option Value) with
          | some (.ref rw_) => (match pj_get pj_t0.1 o with
            | some (.inr (co, [.ref nn, .int _])) => (match pj_get pj_t0.1 nn with
              | some (.inl (k1, n1, .inr (.inl _))) => (match pj_get pj_t0.1 rw_ with
                | some (.inl (k2, n2, .inr (.inl _))) => decide (cx = 11 ∧ cm = 12 ∧ co = 6 ∧ k1 = 1 ∧ n1 = 10 ∧ k2 = 1 ∧ n2 = 24 ∧ fm.length = 60)
                | _ => false)
              | _ => false)
            | _ => false)
          | _ => false)
        | _ => false)
      | _ => false)
    | _ => false)
  | _ => false
set_option maxRecDepth 100000 in
theorem pj_t0c_t : pj_t0c = true := by decide +kernel
theorem pj_t0c_s : ∃ (out am ax o nn rw_ : Nat) (fx fm : List Value) (s0 : Int32) (f g : Nat → Int64), pj_t0.2.2.1 = [(4, .int 0), (3, .ref out), (2, .ref am), (1, .ref ax), (0, .ref 0)] ∧ pj_get pj_t0.1 ax = some (.inr (11, fx)) ∧ fx[1]? = some (.ref o) ∧ pj_row pj_t0.1 o nn s0 ∧ pj_get pj_t0.1 am = some (.inr (12, fm)) ∧ fm.length = 60 ∧ fm[2]? = some (.ref rw_) ∧ pj_get pj_t0.1 rw_ = some (.inl (1, 24, .inr (.inl g))) ∧ am ∉ [o, nn] ∧ rw_ ∉ [o, nn] := by
  have h := pj_t0c_t
  obtain ⟨va, vb, vc, e⟩ := pj_t0_shape
  have e2 : pj_t0.2.2.1 = [(4, .int 0), (3, va), (2, vb), (1, vc), (0, .ref 0)] := congrArg (fun t : pj_T => t.2.2.1) e
  clear e
  unfold pj_t0c at h
  rw [e2] at h
  rw [e2]
  split at h
  · rename_i q1 out am ax q2 heq
    cases heq
    split at h
    · rename_i cx fx hx
      split at h
      · rename_i cm fm hm
        split at h
        · rename_i o ho
          split at h
          · rename_i rw_ hrw
            split at h
            · rename_i co nn s0 hro
              split at h
              · rename_i k1 n1 f hnn
                split at h
                · rename_i k2 n2 g hrr
                  obtain ⟨rfl, rfl, rfl, rfl, rfl, rfl, rfl, hl⟩ := of_decide_eq_true h
                  refine ⟨out, am, ax, o, nn, rw_, fx, fm, s0, f, g, rfl, hx, ho, ⟨hro, f, hnn⟩, hm, hl, hrw, hrr, ?_, ?_⟩
                  · intro hmem
                    rcases List.mem_cons.mp hmem with e | hmem
                    · rw [e, hro] at hm
                      cases hm
                    · rcases List.mem_cons.mp hmem with e | hmem
                      · rw [e, hnn] at hm
                        cases hm
                      · cases hmem
                  · intro hmem
                    rcases List.mem_cons.mp hmem with e | hmem
                    · rw [e, hro] at hrr
                      cases hrr
                    · rcases List.mem_cons.mp hmem with e | hmem
                      · rw [e, hnn] at hrr
                        cases hrr
                      · cases hmem
                · cases h
              · cases h
            · cases h
          · cases h
        · cases h
      · cases h
    · cases h
  · cases h
theorem pj_run_sub {call : pj_F} {n0 : Nat} {xs : Nat → Int32} {M M' : pj_M} (hn : M'.2.2.1 = M.2.2.1) (hr : M'.2.2.2.1 = M.2.2.2.1) (hf : ∀ pc q, pj_find M'.2.2.2.2.2 pc = some q → pj_find M.2.2.2.2.2 pc = some q) : ∀ (n : Nat) (t : pj_T) (r : Option Value × pj_G × Nat × Nat), pj_run call n0 xs M' n t = some r → pj_run call n0 xs M n t = some r
  | 0, t, r, h => by cases (show (none : pj_V) = some r from h)
  | n + 1, t, r, h => by
    rw [pj_run_s] at h ⊢
    unfold pj_one at h ⊢
    split at h
    · cases h
    · rename_i q hq
      rw [hf _ _ hq]
      rw [hn, hr] at h
      show (match pj_rt M.2.2.2.1 q.1 t.2.2.2.1 with
        | some v => some (v, t.1, t.2.2.2.2.1, t.2.2.2.2.2)
        | none => (match pj_s call n0 xs M.2.2.1 q.2.2.1 q.2.2.2 q.1 t.2.1 t.1 t.2.2.1 t.2.2.2.1 with
          | none => none
          | some r => pj_run call n0 xs M n (r.1, r.2.1, r.2.2.1, r.2.2.2.1, t.2.2.2.2.1 + r.2.2.2.2.1, t.2.2.2.2.2 + r.2.2.2.2.2))) = some r
      split at h
      · rename_i v hv
        rw [hv]
        exact h
      · rename_i hv
        rw [hv]
        split at h
        · cases h
        · rename_i r2 hr2
          rw [hr2]
          exact pj_run_sub hn hr hf n _ r h
/-- the law's entries that this case runs over -/
def pj_law35 : pj_M := (pj_law.1, pj_law.2.1, 8, some .boolean, pj_law.2.2.2.2.1, [(39, .tableswitch 1556 0 43 #[189, 214, 239, 252, 265, 278, 291, 359, 427, 495, 556, 593, 630, 667, 704, 729, 742, 755, 792, 817, 854, 891, 904, 929, 954, 967, 980, 1005, 1018, 1043, 1104, 1153, 1202, 1215, 1228, 1241, 1302, 1351, 1376, 1389, 1426, 1451, 1476, 1501], 189, [], 0), (1280, .aload_n 1, 1, [], 0), (1281, .aload_n 0, 1, [], 0), (1282, .iload 4, 2, [], 0), (1284, .iconst 1, 1, [], 0), (1285, .iadd, 1, [], 0), (1286, .iaload, 1, [], 0), (1287, .aload_n 0, 1, [], 0), (1288, .iload 4, 2, [], 0), (1290, .iconst 2, 1, [], 0), (1291, .iadd, 1, [], 0), (1292, .iaload, 1, [], 0), (1293, .aload_n 0, 1, [], 0), (1294, .iload 4, 2, [], 0), (1296, .iconst 3, 1, [], 0), (1297, .iadd, 1, [], 0), (1298, .iaload, 1, [], 0), (1299, .aload_n 0, 1, [], 0), (1300, .iload 4, 2, [], 0), (1302, .iconst 4, 1, [], 0), (1303, .iadd, 1, [], 0), (1304, .iaload, 1, [], 0), (1305, .invokevirtual 177, 3, [0, 5, 152, 11, 1187], 0), (1308, .aload_n 2, 1, [], 0), (1309, .aload_n 0, 1, [], 0), (1310, .iload 4, 2, [], 0), (1312, .iconst 1, 1, [], 0), (1313, .iadd, 1, [], 0), (1314, .iaload, 1, [], 0), (1315, .aload_n 0, 1, [], 0), (1316, .iload 4, 2, [], 0), (1318, .iconst 2, 1, [], 0), (1319, .iadd, 1, [], 0), (1320, .iaload, 1, [], 0), (1321, .aload_n 0, 1, [], 0), (1322, .iload 4, 2, [], 0), (1324, .iconst 3, 1, [], 0), (1325, .iadd, 1, [], 0), (1326, .iaload, 1, [], 0), (1327, .aload_n 0, 1, [], 0), (1328, .iload 4, 2, [], 0), (1330, .iconst 4, 1, [], 0), (1331, .iadd, 1, [], 0), (1332, .iaload, 1, [], 0), (1333, .invokevirtual 180, 3, [0, 5, 272, 12, 1985], 0), (1336, .if_icmp .eq 259, 3, [1595], 0), (1595, .iinc 4 5, 3, [], 0), (1598, .goto (-1575), 3, [23], 0), (23, .iload 4, 2, [], 0), (25, .aload_n 0, 1, [], 0), (26, .arraylength, 1, [], 0), (27, .iconst 5, 1, [], 0), (28, .isub, 1, [], 0), (29, .if_icmp .gt 1572, 3, [1601], 0), (1601, .iconst 1, 1, [], 0), (1602, .ireturn, 1, [], 0)])
set_option maxRecDepth 100000 in
theorem pj_law35_ok : pj_law35.2.2.2.2.2.all (fun q => decide (pj_find pj_law.2.2.2.2.2 q.1 = some q.2)) = true := by decide +kernel
theorem pj_law35_nr : pj_law35.2.2.1 = pj_law.2.2.1 ∧ pj_law35.2.2.2.1 = pj_law.2.2.2.1 := ⟨rfl, rfl⟩
theorem pj_R_sub35 {C : Nat → pj_F} {n0 : Nat} {xs : Nat → Int32} {t : pj_T} {r : Option Value × pj_G × Nat × Nat} (h : pj_R C n0 xs pj_law35 t r) : pj_R C n0 xs pj_law t r := by
  obtain ⟨f, n, h⟩ := h
  exact ⟨f, n, pj_run_sub pj_law35_nr.1 pj_law35_nr.2 (fun pc q hq => of_decide_eq_true (List.all_eq_true.mp pj_law35_ok (pc, q) (pj_find_s hq))) n t r h⟩
set_option maxRecDepth 100000 in
set_option maxHeartbeats 8000000 in
theorem pj_lw35 {xs : Nat → Int32} (G : pj_G) (mc ms out am ax o nn rw_ : Nat) (fx fm : List Value) (s0 : Int32) (g : Nat → Int64) (hx : pj_get G ax = some (.inr (11, fx))) (ho : fx[1]? = some (.ref o)) (hr : pj_row G o nn s0) (hm : pj_get G am = some (.inr (12, fm))) (hl : fm.length = 60) (hrw : fm[2]? = some (.ref rw_)) (hrr : pj_get G rw_ = some (.inl (1, 24, .inr (.inl g)))) (n1 : am ∉ [o, nn]) (n2 : rw_ ∉ [o, nn]) (h1 : 0 ≤ (xs 1).toInt ∧ (xs 1).toInt ≤ 16777215) (h2 : 0 ≤ (xs 2).toInt ∧ (xs 2).toInt ≤ 16777215) (h3 : 1 ≤ (xs 3).toInt ∧ (xs 3).toInt ≤ 48) (h4 : 1 ≤ (xs 4).toInt ∧ (xs 4).toInt ≤ 48) : ∃ G', pj_R pj_lc 6 xs pj_law (G, 39, [(4, .int 0), (3, .ref out), (2, .ref am), (1, .ref ax), (0, .ref 0)], [.int 35], mc, ms) (some (.int 1), G', mc, ms) := by
  obtain ⟨G1, e1, s1⟩ := pj_shareX G ax o nn fx s0 (xs 1) (xs 2) (xs 3) (xs 4) hx ho hr h1 h2 h3 h4
  have hm1 := hm
  rw [← s1 am n1] at hm1
  have hrr1 := hrr
  rw [← s1 rw_ n2] at hrr1
  obtain ⟨G2, e2⟩ := pj_shareM hm1 hl hrr1 hrw (xs 1) (xs 2) (xs 3) (xs 4) h1 h2 h3 h4
  refine ⟨G2, ?_⟩
  obtain ⟨v, hv⟩ : ∃ v, v = pj_hwf (xs 1) (xs 3) (xs 4) (Int32.ofInt 0) + pj_hwf (xs 2) (xs 3) (xs 4) (Int32.ofInt 1) := ⟨_, rfl⟩
  rw [← hv] at e1 e2
  clear hv
  refine pj_R_sub35 ?_
  refine pj_R_to (G, 1305, [(4, .int 0), (3, .ref out), (2, .ref am), (1, .ref ax), (0, .ref 0)], [.int (xs 4), .int (xs 3), .int (xs 2), .int (xs 1), .ref ax], mc, ms) 1305 23 (fun _ => rfl) ?_
  refine pj_R_ca pj_lc_mon (vs := [.ref ax, .int (xs 1), .int (xs 2), .int (xs 3), .int (xs 4)]) (S2 := [.int v]) rfl (fun _ => rfl) ⟨Nat.le_of_ble_eq_true rfl, Nat.le_of_ble_eq_true rfl, pj_rcvI hx⟩ ⟨rfl, rfl, rfl⟩ (pj_E_lc (by decide) (by decide) e1) ?_
  show pj_R _ _ _ _ (G1, 1308, [(4, .int 0), (3, .ref out), (2, .ref am), (1, .ref ax), (0, .ref 0)], [.int v], mc, ms) _
  refine pj_R_to (G1, 1333, [(4, .int 0), (3, .ref out), (2, .ref am), (1, .ref ax), (0, .ref 0)], [.int (xs 4), .int (xs 3), .int (xs 2), .int (xs 1), .ref am, .int v], mc, ms) 1333 22 (fun _ => rfl) ?_
  refine pj_R_ca pj_lc_mon (vs := [.ref am, .int (xs 1), .int (xs 2), .int (xs 3), .int (xs 4)]) (S2 := [.int v, .int v]) rfl (fun _ => rfl) ⟨Nat.le_of_ble_eq_true rfl, Nat.le_of_ble_eq_true rfl, pj_rcvI hm1⟩ ⟨rfl, rfl, rfl⟩ (pj_E_lc (by decide) (by decide) e2) ?_
  show pj_R _ _ _ _ (G2, 1336, [(4, .int 0), (3, .ref out), (2, .ref am), (1, .ref ax), (0, .ref 0)], [.int v, .int v], mc, ms) _
  refine pj_R_icT 1595 rfl rfl (decide_eq_true rfl) ?_
  refine pj_R_to (G2, 29, [(4, .int (0 + Int32.ofInt 5)), (3, .ref out), (2, .ref am), (1, .ref ax), (0, .ref 0)], [.int ((Int32.ofNat 5) - (Int32.ofInt 5)), .int (0 + Int32.ofInt 5)], mc, ms) 29 8 (fun _ => rfl) ?_
  refine pj_R_icT 1601 rfl rfl (by decide) ?_
  refine pj_R_to (G2, 1602, [(4, .int (0 + Int32.ofInt 5)), (3, .ref out), (2, .ref am), (1, .ref ax), (0, .ref 0)], [.int (Int32.ofInt 1)], mc, ms) 1602 2 (fun _ => rfl) ?_
  exact pj_R_rt rfl rfl
theorem pj_gv35 {xs : Nat → Int32} (h0 : xs 0 &&& 63 = 35) (h1 : 0 ≤ (xs 1).toInt ∧ (xs 1).toInt ≤ 16777215) (h2 : 0 ≤ (xs 2).toInt ∧ (xs 2).toInt ≤ 16777215) (h3 : 1 ≤ (xs 3).toInt ∧ (xs 3).toInt ≤ 48) (h4 : 1 ≤ (xs 4).toInt ∧ (xs 4).toInt ≤ 48) : pj_goal xs := by
  obtain ⟨out, am, ax, o, nn, rw_, fx, fm, s0, f, g, eL, hx, ho, hr, hm, hl, hrw, hrr, n1, n2⟩ := pj_t0c_s
  obtain ⟨G', ff, k, hk⟩ := pj_lw35 (xs := xs) pj_t0.1 pj_t0.2.2.2.2.1 pj_t0.2.2.2.2.2 out am ax o nn rw_ fx fm s0 g hx ho hr hm hl hrw hrr n1 n2 h1 h2 h3 h4
  rw [← eL] at hk
  exact pj_join h0 hk (Nat.le_trans pj_t0_small.1 (by decide)) (Nat.le_trans pj_t0_small.2 (by decide))
/-- the law's entries that this case runs over -/
def pj_law36 : pj_M := (pj_law.1, pj_law.2.1, 8, some .boolean, pj_law.2.2.2.2.1, [(39, .tableswitch 1556 0 43 #[189, 214, 239, 252, 265, 278, 291, 359, 427, 495, 556, 593, 630, 667, 704, 729, 742, 755, 792, 817, 854, 891, 904, 929, 954, 967, 980, 1005, 1018, 1043, 1104, 1153, 1202, 1215, 1228, 1241, 1302, 1351, 1376, 1389, 1426, 1451, 1476, 1501], 189, [], 0), (1341, .aload_n 1, 1, [], 0), (1342, .aload_n 0, 1, [], 0), (1343, .iload 4, 2, [], 0), (1345, .iconst 1, 1, [], 0), (1346, .iadd, 1, [], 0), (1347, .iaload, 1, [], 0), (1348, .aload_n 0, 1, [], 0), (1349, .iload 4, 2, [], 0), (1351, .iconst 2, 1, [], 0), (1352, .iadd, 1, [], 0), (1353, .iaload, 1, [], 0), (1354, .aload_n 0, 1, [], 0), (1355, .iload 4, 2, [], 0), (1357, .iconst 3, 1, [], 0), (1358, .iadd, 1, [], 0), (1359, .iaload, 1, [], 0), (1360, .invokevirtual 181, 3, [0, 4, 153, 11, 1194], 0), (1363, .aload_n 2, 1, [], 0), (1364, .aload_n 0, 1, [], 0), (1365, .iload 4, 2, [], 0), (1367, .iconst 1, 1, [], 0), (1368, .iadd, 1, [], 0), (1369, .iaload, 1, [], 0), (1370, .aload_n 0, 1, [], 0), (1371, .iload 4, 2, [], 0), (1373, .iconst 2, 1, [], 0), (1374, .iadd, 1, [], 0), (1375, .iaload, 1, [], 0), (1376, .aload_n 0, 1, [], 0), (1377, .iload 4, 2, [], 0), (1379, .iconst 3, 1, [], 0), (1380, .iadd, 1, [], 0), (1381, .iaload, 1, [], 0), (1382, .invokevirtual 184, 3, [0, 4, 273, 12, 1998], 0), (1385, .if_icmp .eq 210, 3, [1595], 0), (1595, .iinc 4 5, 3, [], 0), (1598, .goto (-1575), 3, [23], 0), (23, .iload 4, 2, [], 0), (25, .aload_n 0, 1, [], 0), (26, .arraylength, 1, [], 0), (27, .iconst 5, 1, [], 0), (28, .isub, 1, [], 0), (29, .if_icmp .gt 1572, 3, [1601], 0), (1601, .iconst 1, 1, [], 0), (1602, .ireturn, 1, [], 0)])
set_option maxRecDepth 100000 in
theorem pj_law36_ok : pj_law36.2.2.2.2.2.all (fun q => decide (pj_find pj_law.2.2.2.2.2 q.1 = some q.2)) = true := by decide +kernel
theorem pj_law36_nr : pj_law36.2.2.1 = pj_law.2.2.1 ∧ pj_law36.2.2.2.1 = pj_law.2.2.2.1 := ⟨rfl, rfl⟩
theorem pj_R_sub36 {C : Nat → pj_F} {n0 : Nat} {xs : Nat → Int32} {t : pj_T} {r : Option Value × pj_G × Nat × Nat} (h : pj_R C n0 xs pj_law36 t r) : pj_R C n0 xs pj_law t r := by
  obtain ⟨f, n, h⟩ := h
  exact ⟨f, n, pj_run_sub pj_law36_nr.1 pj_law36_nr.2 (fun pc q hq => of_decide_eq_true (List.all_eq_true.mp pj_law36_ok (pc, q) (pj_find_s hq))) n t r h⟩
set_option maxRecDepth 100000 in
set_option maxHeartbeats 8000000 in
theorem pj_lw36 {xs : Nat → Int32} (G : pj_G) (mc ms out am ax o nn rw_ : Nat) (fx fm : List Value) (s0 : Int32) (g : Nat → Int64) (hx : pj_get G ax = some (.inr (11, fx))) (ho : fx[1]? = some (.ref o)) (hr : pj_row G o nn s0) (hm : pj_get G am = some (.inr (12, fm))) (hl : fm.length = 60) (hrw : fm[2]? = some (.ref rw_)) (hrr : pj_get G rw_ = some (.inl (1, 24, .inr (.inl g)))) (n1 : am ∉ [o, nn]) (n2 : rw_ ∉ [o, nn]) (h1 : 0 ≤ (xs 1).toInt ∧ (xs 1).toInt ≤ 16777215) (h2 : 0 ≤ (xs 2).toInt ∧ (xs 2).toInt ≤ 16777215) (h3 : 1 ≤ (xs 3).toInt ∧ (xs 3).toInt ≤ 48) : ∃ G', pj_R pj_lc 6 xs pj_law (G, 39, [(4, .int 0), (3, .ref out), (2, .ref am), (1, .ref ax), (0, .ref 0)], [.int 36], mc, ms) (some (.int 1), G', mc, ms) := by
  obtain ⟨G1, e1, s1⟩ := pj_turnX G ax o nn fx s0 (xs 1) (xs 2) (xs 3) hx ho hr h1 h2 h3
  have hm1 := hm
  rw [← s1 am n1] at hm1
  have hrr1 := hrr
  rw [← s1 rw_ n2] at hrr1
  obtain ⟨G2, e2⟩ := pj_turnM hm1 hl hrr1 hrw (xs 1) (xs 2) (xs 3) h1 h2 h3
  refine ⟨G2, ?_⟩
  rw [pj_turn_eq _ _ _ h3] at e1
  obtain ⟨v, hv⟩ : ∃ v, v = (pj_tmf (xs 1) (xs 2) (xs 3) 23 (Int32.ofInt 1) (Int32.ofInt (-1)) (Int32.ofInt (-1))).1 := ⟨_, rfl⟩
  rw [← hv] at e1 e2
  clear hv
  refine pj_R_sub36 ?_
  refine pj_R_to (G, 1360, [(4, .int 0), (3, .ref out), (2, .ref am), (1, .ref ax), (0, .ref 0)], [.int (xs 3), .int (xs 2), .int (xs 1), .ref ax], mc, ms) 1360 18 (fun _ => rfl) ?_
  refine pj_R_ca pj_lc_mon (vs := [.ref ax, .int (xs 1), .int (xs 2), .int (xs 3)]) (S2 := [.int v]) rfl (fun _ => rfl) ⟨Nat.le_of_ble_eq_true rfl, Nat.le_of_ble_eq_true rfl, pj_rcvI hx⟩ ⟨rfl, rfl, rfl⟩ (pj_E_lc (by decide) (by decide) e1) ?_
  show pj_R _ _ _ _ (G1, 1363, [(4, .int 0), (3, .ref out), (2, .ref am), (1, .ref ax), (0, .ref 0)], [.int v], mc, ms) _
  refine pj_R_to (G1, 1382, [(4, .int 0), (3, .ref out), (2, .ref am), (1, .ref ax), (0, .ref 0)], [.int (xs 3), .int (xs 2), .int (xs 1), .ref am, .int v], mc, ms) 1382 17 (fun _ => rfl) ?_
  refine pj_R_ca pj_lc_mon (vs := [.ref am, .int (xs 1), .int (xs 2), .int (xs 3)]) (S2 := [.int v, .int v]) rfl (fun _ => rfl) ⟨Nat.le_of_ble_eq_true rfl, Nat.le_of_ble_eq_true rfl, pj_rcvI hm1⟩ ⟨rfl, rfl, rfl⟩ (pj_E_lc (by decide) (by decide) e2) ?_
  show pj_R _ _ _ _ (G2, 1385, [(4, .int 0), (3, .ref out), (2, .ref am), (1, .ref ax), (0, .ref 0)], [.int v, .int v], mc, ms) _
  refine pj_R_icT 1595 rfl rfl (decide_eq_true rfl) ?_
  refine pj_R_to (G2, 29, [(4, .int (0 + Int32.ofInt 5)), (3, .ref out), (2, .ref am), (1, .ref ax), (0, .ref 0)], [.int ((Int32.ofNat 5) - (Int32.ofInt 5)), .int (0 + Int32.ofInt 5)], mc, ms) 29 8 (fun _ => rfl) ?_
  refine pj_R_icT 1601 rfl rfl (by decide) ?_
  refine pj_R_to (G2, 1602, [(4, .int (0 + Int32.ofInt 5)), (3, .ref out), (2, .ref am), (1, .ref ax), (0, .ref 0)], [.int (Int32.ofInt 1)], mc, ms) 1602 2 (fun _ => rfl) ?_
  exact pj_R_rt rfl rfl
theorem pj_gv36 {xs : Nat → Int32} (h0 : xs 0 &&& 63 = 36) (h1 : 0 ≤ (xs 1).toInt ∧ (xs 1).toInt ≤ 16777215) (h2 : 0 ≤ (xs 2).toInt ∧ (xs 2).toInt ≤ 16777215) (h3 : 1 ≤ (xs 3).toInt ∧ (xs 3).toInt ≤ 48) : pj_goal xs := by
  obtain ⟨out, am, ax, o, nn, rw_, fx, fm, s0, f, g, eL, hx, ho, hr, hm, hl, hrw, hrr, n1, n2⟩ := pj_t0c_s
  obtain ⟨G', ff, k, hk⟩ := pj_lw36 (xs := xs) pj_t0.1 pj_t0.2.2.2.2.1 pj_t0.2.2.2.2.2 out am ax o nn rw_ fx fm s0 g hx ho hr hm hl hrw hrr n1 n2 h1 h2 h3
  rw [← eL] at hk
  exact pj_join h0 hk (Nat.le_trans pj_t0_small.1 (by decide)) (Nat.le_trans pj_t0_small.2 (by decide))
