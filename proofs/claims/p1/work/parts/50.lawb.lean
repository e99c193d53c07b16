/-! THE LAW'S CASES rests AND hours -/
/-- the law's entries that this case runs over -/
def pj_law37 : pj_M := (pj_law.1, pj_law.2.1, 8, some .boolean, pj_law.2.2.2.2.1, [(39, .tableswitch 1556 0 43 #[189, 214, 239, 252, 265, 278, 291, 359, 427, 495, 556, 593, 630, 667, 704, 729, 742, 755, 792, 817, 854, 891, 904, 929, 954, 967, 980, 1005, 1018, 1043, 1104, 1153, 1202, 1215, 1228, 1241, 1302, 1351, 1376, 1389, 1426, 1451, 1476, 1501], 189, [], 0), (1390, .aload_n 1, 1, [], 0), (1391, .aload_n 0, 1, [], 0), (1392, .iload 4, 2, [], 0), (1394, .iconst 1, 1, [], 0), (1395, .iadd, 1, [], 0), (1396, .iaload, 1, [], 0), (1397, .invokevirtual 185, 3, [0, 2, 154, 11, 1198], 0), (1400, .aload_n 2, 1, [], 0), (1401, .aload_n 0, 1, [], 0), (1402, .iload 4, 2, [], 0), (1404, .iconst 1, 1, [], 0), (1405, .iadd, 1, [], 0), (1406, .iaload, 1, [], 0), (1407, .invokevirtual 188, 3, [0, 2, 276, 12, 2002], 0), (1410, .if_icmp .eq 185, 3, [1595], 0), (1595, .iinc 4 5, 3, [], 0), (1598, .goto (-1575), 3, [23], 0), (23, .iload 4, 2, [], 0), (25, .aload_n 0, 1, [], 0), (26, .arraylength, 1, [], 0), (27, .iconst 5, 1, [], 0), (28, .isub, 1, [], 0), (29, .if_icmp .gt 1572, 3, [1601], 0), (1601, .iconst 1, 1, [], 0), (1602, .ireturn, 1, [], 0)])
set_option maxRecDepth 100000 in
theorem pj_law37_ok : pj_law37.2.2.2.2.2.all (fun q => decide (pj_find pj_law.2.2.2.2.2 q.1 = some q.2)) = true := by decide +kernel
theorem pj_law37_nr : pj_law37.2.2.1 = pj_law.2.2.1 ∧ pj_law37.2.2.2.1 = pj_law.2.2.2.1 := ⟨rfl, rfl⟩
theorem pj_R_sub37 {C : Nat → pj_F} {n0 : Nat} {xs : Nat → Int32} {t : pj_T} {r : Option Value × pj_G × Nat × Nat} (h : pj_R C n0 xs pj_law37 t r) : pj_R C n0 xs pj_law t r := by
  obtain ⟨f, n, h⟩ := h
  exact ⟨f, n, pj_run_sub pj_law37_nr.1 pj_law37_nr.2 (fun pc q hq => of_decide_eq_true (List.all_eq_true.mp pj_law37_ok (pc, q) (pj_find_s hq))) n t r h⟩
set_option maxRecDepth 100000 in
set_option maxHeartbeats 8000000 in
theorem pj_lw37 {xs : Nat → Int32} (G : pj_G) (mc ms out am ax o nn rw_ : Nat) (fx fm : List Value) (s0 : Int32) (g : Nat → Int64) (hx : pj_get G ax = some (.inr (11, fx))) (ho : fx[1]? = some (.ref o)) (hr : pj_row G o nn s0) (hm : pj_get G am = some (.inr (12, fm))) (hl : fm.length = 60) (hrw : fm[2]? = some (.ref rw_)) (hrr : pj_get G rw_ = some (.inl (1, 24, .inr (.inl g)))) (n1 : am ∉ [o, nn]) (n2 : rw_ ∉ [o, nn]) (h1 : 0 ≤ (xs 1).toInt ∧ (xs 1).toInt ≤ 9) : ∃ G', pj_R pj_lc 6 xs pj_law (G, 39, [(4, .int 0), (3, .ref out), (2, .ref am), (1, .ref ax), (0, .ref 0)], [.int 37], mc, ms) (some (.int 1), G', mc, ms) := by
  obtain ⟨G1, e1, s1⟩ := pj_restsX G ax o nn fx s0 (xs 1) hx ho hr h1
  have hm1 := hm
  rw [← s1 am n1] at hm1
  have hrr1 := hrr
  rw [← s1 rw_ n2] at hrr1
  obtain ⟨G2, e2⟩ := pj_restsM hm1 hl hrr1 hrw (xs 1) h1
  refine ⟨G2, ?_⟩
  rw [pj_out_eq h1 9 _ _ (by decide) (by decide)] at e1
  obtain ⟨v, hv⟩ : ∃ v, v = pj_out (pj_okMr (xs 1)) 9 (Int32.ofInt 1) (Int32.ofInt 0) := ⟨_, rfl⟩
  rw [← hv] at e1 e2
  clear hv
  refine pj_R_sub37 ?_
  refine pj_R_to (G, 1397, [(4, .int 0), (3, .ref out), (2, .ref am), (1, .ref ax), (0, .ref 0)], [.int (xs 1), .ref ax], mc, ms) 1397 8 (fun _ => rfl) ?_
  refine pj_R_ca pj_lc_mon (vs := [.ref ax, .int (xs 1)]) (S2 := [.int v]) rfl (fun _ => rfl) ⟨Nat.le_of_ble_eq_true rfl, Nat.le_of_ble_eq_true rfl, pj_rcvI hx⟩ ⟨rfl, rfl, rfl⟩ (pj_E_lc (by decide) (by decide) e1) ?_
  show pj_R _ _ _ _ (G1, 1400, [(4, .int 0), (3, .ref out), (2, .ref am), (1, .ref ax), (0, .ref 0)], [.int v], mc, ms) _
  refine pj_R_to (G1, 1407, [(4, .int 0), (3, .ref out), (2, .ref am), (1, .ref ax), (0, .ref 0)], [.int (xs 1), .ref am, .int v], mc, ms) 1407 7 (fun _ => rfl) ?_
  refine pj_R_ca pj_lc_mon (vs := [.ref am, .int (xs 1)]) (S2 := [.int v, .int v]) rfl (fun _ => rfl) ⟨Nat.le_of_ble_eq_true rfl, Nat.le_of_ble_eq_true rfl, pj_rcvI hm1⟩ ⟨rfl, rfl, rfl⟩ (pj_E_lc (by decide) (by decide) e2) ?_
  show pj_R _ _ _ _ (G2, 1410, [(4, .int 0), (3, .ref out), (2, .ref am), (1, .ref ax), (0, .ref 0)], [.int v, .int v], mc, ms) _
  refine pj_R_icT 1595 rfl rfl (decide_eq_true rfl) ?_
  refine pj_R_to (G2, 29, [(4, .int (0 + Int32.ofInt 5)), (3, .ref out), (2, .ref am), (1, .ref ax), (0, .ref 0)], [.int ((Int32.ofNat 5) - (Int32.ofInt 5)), .int (0 + Int32.ofInt 5)], mc, ms) 29 8 (fun _ => rfl) ?_
  refine pj_R_icT 1601 rfl rfl (by decide) ?_
  refine pj_R_to (G2, 1602, [(4, .int (0 + Int32.ofInt 5)), (3, .ref out), (2, .ref am), (1, .ref ax), (0, .ref 0)], [.int (Int32.ofInt 1)], mc, ms) 1602 2 (fun _ => rfl) ?_
  exact pj_R_rt rfl rfl
theorem pj_gv37 {xs : Nat → Int32} (h0 : xs 0 &&& 63 = 37) (h1 : 0 ≤ (xs 1).toInt ∧ (xs 1).toInt ≤ 9) : pj_goal xs := by
  obtain ⟨out, am, ax, o, nn, rw_, fx, fm, s0, f, g, eL, hx, ho, hr, hm, hl, hrw, hrr, n1, n2⟩ := pj_t0c_s
  obtain ⟨G', ff, k, hk⟩ := pj_lw37 (xs := xs) pj_t0.1 pj_t0.2.2.2.2.1 pj_t0.2.2.2.2.2 out am ax o nn rw_ fx fm s0 g hx ho hr hm hl hrw hrr n1 n2 h1
  rw [← eL] at hk
  exact pj_join h0 hk (Nat.le_trans pj_t0_small.1 (by decide)) (Nat.le_trans pj_t0_small.2 (by decide))
noncomputable def pj_t0h : Bool := match pj_t0.2.2.1 with
  | [(4, .int _), (3, .ref _), (2, .ref am), (1, .ref ax), (0, .ref _)] => (match pj_get pj_t0.1 ax with
  | some (.inr (c1, fx0)) => (match (fx0[2]? : Option Value) with
  | some (.ref va0) => (match (fx0[7]? : Option Value) with
  | some (.ref me0) => (match pj_get pj_t0.1 va0 with
  | some (.inr (c2, fv0)) => (match (fv0[2]? : Option Value) with
  | some (.ref st0) => (match pj_get pj_t0.1 me0 with
  | some (.inr (c3, fm0)) => (match pj_exec pj_prog pj_nat 20000 40 33 [.ref me0, .ref st0] pj_t0.1 with
  | some (none, Gn, dc, ds) => (match pj_get Gn ax with
  | some (.inr (c4, fx)) => (match (fx[1]? : Option Value) with
  | some (.ref o) => (match (fx[2]? : Option Value) with
  | some (.ref va) => (match (fx[7]? : Option Value) with
  | some (.ref me) => (match pj_get Gn va with
  | some (.inr (c5, fv)) => (match (fv[2]? : Option Value) with
  | some (.ref st) => (match pj_get Gn st with
  | some (.inr (c6, fs)) => (match (fs[0]? : Option Value) with
  | some (.int b0) => (match (fs[7]? : Option Value) with
  | some (.int v0) => (match pj_get Gn me with
  | some (.inr (c7, fm)) => (match (fm[0]? : Option Value) with
  | some (.ref rg) => (match (fm[1]? : Option Value) with
  | some (.int _) => (match (fm[2]? : Option Value) with
  | some (.int _) => (match pj_get Gn rg with
  | some (.inl (k3, y)) => (match pj_get Gn o with
  | some (.inr (c8, [.ref nn, .int _])) => (match pj_get Gn nn with
  | some (.inl (k1, n1, .inr (.inl _))) => (match pj_get Gn am with
  | some (.inr (c9, fz)) => (match (fz[2]? : Option Value) with
  | some (.ref rw_) => (match (fz[5]? : Option Value) with
  | some (.int b5) => (match (fz[14]? : Option Value) with
  | some (.ref na) => (match (fz[30]? : Option Value) with
  | some (.int b30) => (match (fz[31]? : Option Value) with
  | some (.ref ua) => (match pj_get Gn rw_ with
  | some (.inl (k2, n2, .inr (.inl _))) => (match pj_get Gn na with
  | some (.inl (k4, n4, .inl f4)) => (match pj_get Gn ua with
  | some (.inl (k5, n5, .inl _)) => decide (c1 = 11 ∧ c2 = 10 ∧ c3 = 4 ∧ dc = 0 ∧ ds = 0 ∧ c4 = 11 ∧ c5 = 10 ∧ c6 = 8 ∧ b0 = 0 ∧ v0 = 0 ∧ c7 = 4 ∧ k3 = 3 ∧ c8 = 6 ∧ k1 = 1 ∧ n1 = 10 ∧ c9 = 12 ∧ b5 = 0 ∧ b30 = 0 ∧ k2 = 1 ∧ n2 = 24 ∧ k4 = 0 ∧ n4 = 32 ∧ k5 = 0 ∧ n5 = 512 ∧ f4 30 = 0 ∧ ¬ Int32.ofNat y.1 = 0 ∧ fv.length = 9 ∧ fs.length = 9 ∧ fm.length = 5 ∧ fz.length = 60)
  | _ => false)
  | _ => false)
  | _ => false)
  | _ => false)
  | _ => false)
  | _ => false)
  | _ => false)
  | _ => false)
  | _ => false)
  | _ => false)
  | _ => false)
  | _ => false)
  | _ => false)
  | _ => false)
  | _ => false)
  | _ => false)
  | _ => false)
  | _ => false)
  | _ => false)
  | _ => false)
  | _ => false)
  | _ => false)
  | _ => false)
  | _ => false)
  | _ => false)
  | _ => false)
  | _ => false)
  | _ => false)
  | _ => false)
  | _ => false)
  | _ => false)
  | _ => false)
  | _ => false
set_option maxRecDepth 100000 in
theorem pj_t0h_t : pj_t0h = true := by decide +kernel
/-- the law's entries that this case runs over -/
def pj_law14 : pj_M := (pj_law.1, pj_law.2.1, 8, some .boolean, pj_law.2.2.2.2.1, [(39, .tableswitch 1556 0 43 #[189, 214, 239, 252, 265, 278, 291, 359, 427, 495, 556, 593, 630, 667, 704, 729, 742, 755, 792, 817, 854, 891, 904, 929, 954, 967, 980, 1005, 1018, 1043, 1104, 1153, 1202, 1215, 1228, 1241, 1302, 1351, 1376, 1389, 1426, 1451, 1476, 1501], 189, [], 0), (743, .aload_n 1, 1, [], 0), (744, .aload_n 0, 1, [], 0), (745, .iload 4, 2, [], 0), (747, .iconst 1, 1, [], 0), (748, .iadd, 1, [], 0), (749, .iaload, 1, [], 0), (750, .invokevirtual 92, 3, [0, 2, 131, 11, 848], 0), (753, .aload_n 2, 1, [], 0), (754, .aload_n 0, 1, [], 0), (755, .iload 4, 2, [], 0), (757, .iconst 1, 1, [], 0), (758, .iadd, 1, [], 0), (759, .iaload, 1, [], 0), (760, .invokevirtual 95, 3, [0, 2, 229, 12, 1783], 0), (763, .if_icmp .eq 832, 3, [1595], 0), (1595, .iinc 4 5, 3, [], 0), (1598, .goto (-1575), 3, [23], 0), (23, .iload 4, 2, [], 0), (25, .aload_n 0, 1, [], 0), (26, .arraylength, 1, [], 0), (27, .iconst 5, 1, [], 0), (28, .isub, 1, [], 0), (29, .if_icmp .gt 1572, 3, [1601], 0), (1601, .iconst 1, 1, [], 0), (1602, .ireturn, 1, [], 0)])
set_option maxRecDepth 100000 in
theorem pj_law14_ok : pj_law14.2.2.2.2.2.all (fun q => decide (pj_find pj_law.2.2.2.2.2 q.1 = some q.2)) = true := by decide +kernel
theorem pj_law14_nr : pj_law14.2.2.1 = pj_law.2.2.1 ∧ pj_law14.2.2.2.1 = pj_law.2.2.2.1 := ⟨rfl, rfl⟩
theorem pj_R_sub14 {C : Nat → pj_F} {n0 : Nat} {xs : Nat → Int32} {t : pj_T} {r : Option Value × pj_G × Nat × Nat} (h : pj_R C n0 xs pj_law14 t r) : pj_R C n0 xs pj_law t r := by
  obtain ⟨f, n, h⟩ := h
  exact ⟨f, n, pj_run_sub pj_law14_nr.1 pj_law14_nr.2 (fun pc q hq => of_decide_eq_true (List.all_eq_true.mp pj_law14_ok (pc, q) (pj_find_s hq))) n t r h⟩
set_option maxRecDepth 100000 in
set_option maxHeartbeats 8000000 in
theorem pj_lw14 {xs : Nat → Int32} (G G1 G2 : pj_G) (mc ms out am ax : Nat) (fx fm : List Value) (v : Int32) (hx : pj_get G ax = some (.inr (11, fx))) (hm1 : pj_get G1 am = some (.inr (12, fm))) (e1 : pj_E pj_lc 131 [.ref ax, .int (xs 1)] G (some (.int v), G1, 0, 0)) (e2 : pj_E pj_lc 229 [.ref am, .int (xs 1)] G1 (some (.int v), G2, 0, 0)) : pj_R pj_lc 6 xs pj_law (G, 39, [(4, .int 0), (3, .ref out), (2, .ref am), (1, .ref ax), (0, .ref 0)], [.int 14], mc, ms) (some (.int 1), G2, mc, ms) := by
  refine pj_R_sub14 ?_
  refine pj_R_to (G, 750, [(4, .int 0), (3, .ref out), (2, .ref am), (1, .ref ax), (0, .ref 0)], [.int (xs 1), .ref ax], mc, ms) 750 8 (fun _ => rfl) ?_
  refine pj_R_ca pj_lc_mon (vs := [.ref ax, .int (xs 1)]) (S2 := [.int v]) rfl (fun _ => rfl) ⟨Nat.le_of_ble_eq_true rfl, Nat.le_of_ble_eq_true rfl, pj_rcvI hx⟩ ⟨rfl, rfl, rfl⟩ e1 ?_
  show pj_R _ _ _ _ (G1, 753, [(4, .int 0), (3, .ref out), (2, .ref am), (1, .ref ax), (0, .ref 0)], [.int v], mc, ms) _
  refine pj_R_to (G1, 760, [(4, .int 0), (3, .ref out), (2, .ref am), (1, .ref ax), (0, .ref 0)], [.int (xs 1), .ref am, .int v], mc, ms) 760 7 (fun _ => rfl) ?_
  refine pj_R_ca pj_lc_mon (vs := [.ref am, .int (xs 1)]) (S2 := [.int v, .int v]) rfl (fun _ => rfl) ⟨Nat.le_of_ble_eq_true rfl, Nat.le_of_ble_eq_true rfl, pj_rcvI hm1⟩ ⟨rfl, rfl, rfl⟩ e2 ?_
  show pj_R _ _ _ _ (G2, 763, [(4, .int 0), (3, .ref out), (2, .ref am), (1, .ref ax), (0, .ref 0)], [.int v, .int v], mc, ms) _
  refine pj_R_icT 1595 rfl rfl (decide_eq_true rfl) ?_
  refine pj_R_to (G2, 29, [(4, .int (0 + Int32.ofInt 5)), (3, .ref out), (2, .ref am), (1, .ref ax), (0, .ref 0)], [.int ((Int32.ofNat 5) - (Int32.ofInt 5)), .int (0 + Int32.ofInt 5)], mc, ms) 29 8 (fun _ => rfl) ?_
  refine pj_R_icT 1601 rfl rfl (by decide) ?_
  refine pj_R_to (G2, 1602, [(4, .int (0 + Int32.ofInt 5)), (3, .ref out), (2, .ref am), (1, .ref ax), (0, .ref 0)], [.int (Int32.ofInt 1)], mc, ms) 1602 2 (fun _ => rfl) ?_
  exact pj_R_rt rfl rfl
theorem pj_gv14 {xs : Nat → Int32} (h0 : xs 0 &&& 63 = 14) (h1 : 0 ≤ (xs 1).toInt ∧ (xs 1).toInt ≤ 99) : pj_goal xs := by
  have h := pj_t0h_t
  obtain ⟨va_, vb_, vc_, e⟩ := pj_t0_shape
  have e2 : pj_t0.2.2.1 = [(4, .int 0), (3, va_), (2, vb_), (1, vc_), (0, .ref 0)] := congrArg (fun t : pj_T => t.2.2.1) e
  clear e
  unfold pj_t0h at h
  rw [e2] at h
  split at h
  rotate_left
  · cases h
  rename_i q1 out am ax q2 heq
  cases heq
  split at h
  rotate_left
  · cases h
  rename_i c1 fx0 a1
  split at h
  rotate_left
  · cases h
  rename_i va0 a2
  split at h
  rotate_left
  · cases h
  rename_i me0 a3
  split at h
  rotate_left
  · cases h
  rename_i c2 fv0 a4
  split at h
  rotate_left
  · cases h
  rename_i st0 a5
  split at h
  rotate_left
  · cases h
  rename_i c3 fm0 a6
  split at h
  rotate_left
  · cases h
  rename_i Gn dc ds a7
  split at h
  rotate_left
  · cases h
  rename_i c4 fx hx
  split at h
  rotate_left
  · cases h
  rename_i o x1
  split at h
  rotate_left
  · cases h
  rename_i va x2
  split at h
  rotate_left
  · cases h
  rename_i me x7
  split at h
  rotate_left
  · cases h
  rename_i c5 fv hv
  split at h
  rotate_left
  · cases h
  rename_i st v2
  split at h
  rotate_left
  · cases h
  rename_i c6 fs hs
  split at h
  rotate_left
  · cases h
  rename_i b0 t0
  split at h
  rotate_left
  · cases h
  rename_i v0 t7
  split at h
  rotate_left
  · cases h
  rename_i c7 fm hm
  split at h
  rotate_left
  · cases h
  rename_i rg m0
  split at h
  rotate_left
  · cases h
  rename_i nx m1
  split at h
  rotate_left
  · cases h
  rename_i sz m2
  split at h
  rotate_left
  · cases h
  rename_i k3 y hg
  split at h
  rotate_left
  · cases h
  rename_i c8 nn s0 hro
  split at h
  rotate_left
  · cases h
  rename_i k1 n1 f1 hrn
  split at h
  rotate_left
  · cases h
  rename_i c9 fz hz
  split at h
  rotate_left
  · cases h
  rename_i rw_ z2
  split at h
  rotate_left
  · cases h
  rename_i b5 z5
  split at h
  rotate_left
  · cases h
  rename_i na z14
  split at h
  rotate_left
  · cases h
  rename_i b30 z30
  split at h
  rotate_left
  · cases h
  rename_i ua z31
  split at h
  rotate_left
  · cases h
  rename_i k2 n2 f2 hrw
  split at h
  rotate_left
  · cases h
  rename_i k4 n4 f4 hna
  split at h
  rotate_left
  · cases h
  rename_i k5 n5 f5 hua
  obtain ⟨rfl, rfl, rfl, rfl, rfl, rfl, rfl, rfl, rfl, rfl, rfl, rfl, rfl, rfl, rfl, rfl, rfl, rfl, rfl, rfl, rfl, rfl, rfl, rfl, f30, hy, l1, l2, l3, l4⟩ := of_decide_eq_true h
  obtain ⟨G1, w1, w2⟩ := pj_hoursX pj_t0.1 Gn ax va0 st0 me0 o nn va st me rg fx0 fv0 fm0 fx fv fs fm y s0 0 (xs 1) nx sz h1 a1 a2 a3 a4 a5 a6 ⟨20000, a7⟩ hx x1 x2 x7 hv l1 v2 hs l2 t0 t7 hm l3 m0 m1 m2 hg hy ⟨hro, f1, hrn⟩
  have mem : ∀ b, b ≠ va → b ≠ st → b ≠ me → b ≠ o → b ≠ nn → b ∉ [va, st, me, o, nn] := fun b q1 q2 q3 q4 q5 hb => by
    simp only [List.mem_cons, List.not_mem_nil, or_false] at hb
    rcases hb with q | q | q | q | q
    · exact q1 q
    · exact q2 q
    · exact q3 q
    · exact q4 q
    · exact q5 q
  have y1 : pj_get G1 am = some (.inr (12, fz)) := by rw [w2 am (mem am (pj_dif hz hv (fun h => by cases h)) (pj_dif hz hs (fun h => by cases h)) (pj_dif hz hm (fun h => by cases h)) (pj_dif hz hro (fun h => by cases h)) (pj_dif hz hrn (fun h => by cases h))), hz]
  have y2 : pj_get G1 rw_ = some (.inl (1, 24, .inr (.inl f2))) := by rw [w2 rw_ (mem rw_ (pj_dif hrw hv (fun h => by cases h)) (pj_dif hrw hs (fun h => by cases h)) (pj_dif hrw hm (fun h => by cases h)) (pj_dif hrw hro (fun h => by cases h)) (pj_dif hrw hrn (fun h => by cases h))), hrw]
  have y3 : pj_get G1 na = some (.inl (0, 32, .inl f4)) := by rw [w2 na (mem na (pj_dif hna hv (fun h => by cases h)) (pj_dif hna hs (fun h => by cases h)) (pj_dif hna hm (fun h => by cases h)) (pj_dif hna hro (fun h => by cases h)) (pj_dif hna hrn (fun h => by cases h))), hna]
  have y4 : pj_get G1 ua = some (.inl (0, 512, .inl f5)) := by rw [w2 ua (mem ua (pj_dif hua hv (fun h => by cases h)) (pj_dif hua hs (fun h => by cases h)) (pj_dif hua hm (fun h => by cases h)) (pj_dif hua hro (fun h => by cases h)) (pj_dif hua hrn (fun h => by cases h))), hua]
  obtain ⟨G2, w3⟩ := pj_hoursM G1 am rw_ na ua fz f4 f2 (xs 1) h1 y1 l4 z2 z5 z14 z30 z31 y2 y3 ⟨f5, y4⟩
  have e30 : f4 (Int8.ofInt 30).toInt32.toNatClampNeg = 0 := f30
  rw [e30] at w3
  obtain ⟨ff, k, hk⟩ := pj_lw14 (xs := xs) pj_t0.1 G1 G2 pj_t0.2.2.2.2.1 pj_t0.2.2.2.2.2 out am ax fx0 fz _ a1 y1 (pj_E_lc (by decide) (by decide) w1) (pj_E_lc (by decide) (by decide) w3)
  rw [← e2] at hk
  exact pj_join h0 hk (Nat.le_trans pj_t0_small.1 (by decide)) (Nat.le_trans pj_t0_small.2 (by decide))
