/-! THE LAW'S CASES share AND turn -/
noncomputable def pj_t0c : Bool := match pj_t0.2.2.1 with
  | [(4, .int _), (3, .ref _), (2, .ref am), (1, .ref ax), (0, .ref _)] => (match pj_get pj_t0.1 ax with
    | some (.inr (cx, fx)) => (match pj_get pj_t0.1 am with
      | some (.inr (cm, fm)) => (match (fx[1]? : Option Value) with
        | some (.ref o) => (match (fm[2]? : Option Value) with
          | some (.ref rw_) => (match pj_get pj_t0.1 o with
            | some (.inr (co, [.ref nn, .int _])) => (match pj_get pj_t0.1 nn with
              | some (.inl (k1, n1, .inr (.inl _))) => (match pj_get pj_t0.1 rw_ with
                | some (.inl (k2, n2, .inr (.inl _))) => decide (cx = 11 ∧ cm = 12 ∧ co = 6 ∧ k1 = 1 ∧ n1 = 10 ∧ k2 = 1 ∧ n2 = 24 ∧ fm.length = 60)
                | _ => false)
              | _ => false)
            | _ => false)
          | _ => false)
        | _ => false)
      | _ => false)
    | _ => false)
  | _ => false
set_option maxRecDepth 100000 in
theorem pj_t0c_t : pj_t0c = true := by decide +kernel
theorem pj_t0c_s : ∃ (out am ax o nn rw_ : Nat) (fx fm : List Value) (s0 : Int32) (f g : Nat → Int64), pj_t0.2.2.1 = [(4, .int 0), (3, .ref out), (2, .ref am), (1, .ref ax), (0, .ref 0)] ∧ pj_get pj_t0.1 ax = some (.inr (11, fx)) ∧ fx[1]? = some (.ref o) ∧ pj_row pj_t0.1 o nn s0 ∧ pj_get pj_t0.1 am = some (.inr (12, fm)) ∧ fm.length = 60 ∧ fm[2]? = some (.ref rw_) ∧ pj_get pj_t0.1 rw_ = some (.inl (1, 24, .inr (.inl g))) ∧ am ∉ [o, nn] ∧ rw_ ∉ [o, nn] := by
  have h := pj_t0c_t
  obtain ⟨va, vb, vc, e⟩ := pj_t0_shape
  have e2 : pj_t0.2.2.1 = [(4, .int 0), (3, va), (2, vb), (1, vc), (0, .ref 0)] := congrArg (fun t : pj_T => t.2.2.1) e
  clear e
  unfold pj_t0c at h
  rw [e2] at h
  rw [e2]
  split at h
  · rename_i q1 out am ax q2 heq
    cases heq
    split at h
    · rename_i cx fx hx
      split at h
      · rename_i cm fm hm
        split at h
        · rename_i o ho
          split at h
          · rename_i rw_ hrw
            split at h
            · rename_i co nn s0 hro
              split at h
              · rename_i k1 n1 f hnn
                split at h
                · rename_i k2 n2 g hrr
                  obtain ⟨rfl, rfl, rfl, rfl, rfl, rfl, rfl, hl⟩ := of_decide_eq_true h
                  refine ⟨out, am, ax, o, nn, rw_, fx, fm, s0, f, g, rfl, hx, ho, ⟨hro, f, hnn⟩, hm, hl, hrw, hrr, ?_, ?_⟩
                  · intro hmem
                    rcases List.mem_cons.mp hmem with e | hmem
                    · rw [e, hro] at hm
                      cases hm
                    · rcases List.mem_cons.mp hmem with e | hmem
                      · rw [e, hnn] at hm
                        cases hm
                      · cases hmem
                  · intro hmem
                    rcases List.mem_cons.mp hmem with e | hmem
                    · rw [e, hro] at hrr
                      cases hrr
                    · rcases List.mem_cons.mp hmem with e | hmem
                      · rw [e, hnn] at hrr
                        cases hrr
                      · cases hmem
                · cases h
              · cases h
            · cases h
          · cases h
        · cases h
      · cases h
    · cases h
  · cases h
set_option maxRecDepth 100000 in
theorem pj_lw35 {xs : Nat → Int32} (G : pj_G) (mc ms out am ax o nn rw_ : Nat) (fx fm : List Value) (s0 : Int32) (g : Nat → Int64) (hx : pj_get G ax = some (.inr (11, fx))) (ho : fx[1]? = some (.ref o)) (hr : pj_row G o nn s0) (hm : pj_get G am = some (.inr (12, fm))) (hl : fm.length = 60) (hrw : fm[2]? = some (.ref rw_)) (hrr : pj_get G rw_ = some (.inl (1, 24, .inr (.inl g)))) (n1 : am ∉ [o, nn]) (n2 : rw_ ∉ [o, nn]) (h1 : 0 ≤ (xs 1).toInt ∧ (xs 1).toInt ≤ 16777215) (h2 : 0 ≤ (xs 2).toInt ∧ (xs 2).toInt ≤ 16777215) (h3 : 1 ≤ (xs 3).toInt ∧ (xs 3).toInt ≤ 48) (h4 : 1 ≤ (xs 4).toInt ∧ (xs 4).toInt ≤ 48) : ∃ G', pj_R pj_lc 6 xs pj_law (G, 39, [(4, .int 0), (3, .ref out), (2, .ref am), (1, .ref ax), (0, .ref 0)], [.int 35], mc, ms) (some (.int 1), G', mc, ms) := by
  obtain ⟨G1, e1, s1⟩ := pj_shareX G ax o nn fx s0 (xs 1) (xs 2) (xs 3) (xs 4) hx ho hr h1 h2 h3 h4
  have hm1 := hm
  rw [← s1 am n1] at hm1
  have hrr1 := hrr
  rw [← s1 rw_ n2] at hrr1
  obtain ⟨G2, e2⟩ := pj_shareM hm1 hl hrr1 hrw (xs 1) (xs 2) (xs 3) (xs 4) h1 h2 h3 h4
  refine ⟨G2, ?_⟩
  refine pj_R_to (G, 1305, [(4, .int 0), (3, .ref out), (2, .ref am), (1, .ref ax), (0, .ref 0)], [.int (xs 4), .int (xs 3), .int (xs 2), .int (xs 1), .ref ax], mc, ms) 1305 23 (fun _ => rfl) ?_
  refine pj_R_ca pj_lc_mon (vs := [.ref ax, .int (xs 1), .int (xs 2), .int (xs 3), .int (xs 4)]) (S2 := [.int (pj_hwf (xs 1) (xs 3) (xs 4) (Int32.ofInt 0) + pj_hwf (xs 2) (xs 3) (xs 4) (Int32.ofInt 1))]) rfl (fun _ => rfl) ⟨Nat.le_of_ble_eq_true rfl, Nat.le_of_ble_eq_true rfl, pj_rcvI hx⟩ ⟨rfl, rfl, rfl⟩ (pj_E_lc (by decide) (by decide) e1) ?_
  show pj_R _ _ _ _ (G1, 1308, [(4, .int 0), (3, .ref out), (2, .ref am), (1, .ref ax), (0, .ref 0)], [.int (pj_hwf (xs 1) (xs 3) (xs 4) (Int32.ofInt 0) + pj_hwf (xs 2) (xs 3) (xs 4) (Int32.ofInt 1))], mc, ms) _
  refine pj_R_to (G1, 1333, [(4, .int 0), (3, .ref out), (2, .ref am), (1, .ref ax), (0, .ref 0)], [.int (xs 4), .int (xs 3), .int (xs 2), .int (xs 1), .ref am, .int (pj_hwf (xs 1) (xs 3) (xs 4) (Int32.ofInt 0) + pj_hwf (xs 2) (xs 3) (xs 4) (Int32.ofInt 1))], mc, ms) 1333 22 (fun _ => rfl) ?_
  refine pj_R_ca pj_lc_mon (vs := [.ref am, .int (xs 1), .int (xs 2), .int (xs 3), .int (xs 4)]) (S2 := [.int (pj_hwf (xs 1) (xs 3) (xs 4) (Int32.ofInt 0) + pj_hwf (xs 2) (xs 3) (xs 4) (Int32.ofInt 1)), .int (pj_hwf (xs 1) (xs 3) (xs 4) (Int32.ofInt 0) + pj_hwf (xs 2) (xs 3) (xs 4) (Int32.ofInt 1))]) rfl (fun _ => rfl) ⟨Nat.le_of_ble_eq_true rfl, Nat.le_of_ble_eq_true rfl, pj_rcvI hm1⟩ ⟨rfl, rfl, rfl⟩ (pj_E_lc (by decide) (by decide) e2) ?_
  show pj_R _ _ _ _ (G2, 1336, [(4, .int 0), (3, .ref out), (2, .ref am), (1, .ref ax), (0, .ref 0)], [.int (pj_hwf (xs 1) (xs 3) (xs 4) (Int32.ofInt 0) + pj_hwf (xs 2) (xs 3) (xs 4) (Int32.ofInt 1)), .int (pj_hwf (xs 1) (xs 3) (xs 4) (Int32.ofInt 0) + pj_hwf (xs 2) (xs 3) (xs 4) (Int32.ofInt 1))], mc, ms) _
  refine pj_R_icT 1595 rfl rfl (decide_eq_true rfl) ?_
  refine pj_R_to (G2, 29, [(4, .int (0 + Int32.ofInt 5)), (3, .ref out), (2, .ref am), (1, .ref ax), (0, .ref 0)], [.int ((Int32.ofNat 5) - (Int32.ofInt 5)), .int (0 + Int32.ofInt 5)], mc, ms) 29 8 (fun _ => rfl) ?_
  refine pj_R_icT 1601 rfl rfl (by decide) ?_
  refine pj_R_to (G2, 1602, [(4, .int (0 + Int32.ofInt 5)), (3, .ref out), (2, .ref am), (1, .ref ax), (0, .ref 0)], [.int (Int32.ofInt 1)], mc, ms) 1602 2 (fun _ => rfl) ?_
  exact pj_R_rt rfl rfl
theorem pj_gv35 {xs : Nat → Int32} (h0 : xs 0 &&& 63 = 35) (h1 : 0 ≤ (xs 1).toInt ∧ (xs 1).toInt ≤ 16777215) (h2 : 0 ≤ (xs 2).toInt ∧ (xs 2).toInt ≤ 16777215) (h3 : 1 ≤ (xs 3).toInt ∧ (xs 3).toInt ≤ 48) (h4 : 1 ≤ (xs 4).toInt ∧ (xs 4).toInt ≤ 48) : pj_goal xs := by
  obtain ⟨out, am, ax, o, nn, rw_, fx, fm, s0, f, g, eL, hx, ho, hr, hm, hl, hrw, hrr, n1, n2⟩ := pj_t0c_s
  obtain ⟨G', ff, k, hk⟩ := pj_lw35 (xs := xs) pj_t0.1 pj_t0.2.2.2.2.1 pj_t0.2.2.2.2.2 out am ax o nn rw_ fx fm s0 g hx ho hr hm hl hrw hrr n1 n2 h1 h2 h3 h4
  rw [← eL] at hk
  exact pj_join h0 hk (Nat.le_trans pj_t0_small.1 (by decide)) (Nat.le_trans pj_t0_small.2 (by decide))
set_option maxRecDepth 100000 in
theorem pj_lw36 {xs : Nat → Int32} (G : pj_G) (mc ms out am ax o nn rw_ : Nat) (fx fm : List Value) (s0 : Int32) (g : Nat → Int64) (hx : pj_get G ax = some (.inr (11, fx))) (ho : fx[1]? = some (.ref o)) (hr : pj_row G o nn s0) (hm : pj_get G am = some (.inr (12, fm))) (hl : fm.length = 60) (hrw : fm[2]? = some (.ref rw_)) (hrr : pj_get G rw_ = some (.inl (1, 24, .inr (.inl g)))) (n1 : am ∉ [o, nn]) (n2 : rw_ ∉ [o, nn]) (h1 : 0 ≤ (xs 1).toInt ∧ (xs 1).toInt ≤ 16777215) (h2 : 0 ≤ (xs 2).toInt ∧ (xs 2).toInt ≤ 16777215) (h3 : 1 ≤ (xs 3).toInt ∧ (xs 3).toInt ≤ 48) : ∃ G', pj_R pj_lc 6 xs pj_law (G, 39, [(4, .int 0), (3, .ref out), (2, .ref am), (1, .ref ax), (0, .ref 0)], [.int 36], mc, ms) (some (.int 1), G', mc, ms) := by
  obtain ⟨G1, e1, s1⟩ := pj_turnX G ax o nn fx s0 (xs 1) (xs 2) (xs 3) hx ho hr h1 h2 h3
  have hm1 := hm
  rw [← s1 am n1] at hm1
  have hrr1 := hrr
  rw [← s1 rw_ n2] at hrr1
  obtain ⟨G2, e2⟩ := pj_turnM hm1 hl hrr1 hrw (xs 1) (xs 2) (xs 3) h1 h2 h3
  refine ⟨G2, ?_⟩
  rw [pj_turn_eq _ _ _ h3] at e1
  refine pj_R_to (G, 1360, [(4, .int 0), (3, .ref out), (2, .ref am), (1, .ref ax), (0, .ref 0)], [.int (xs 3), .int (xs 2), .int (xs 1), .ref ax], mc, ms) 1360 18 (fun _ => rfl) ?_
  refine pj_R_ca pj_lc_mon (vs := [.ref ax, .int (xs 1), .int (xs 2), .int (xs 3)]) (S2 := [.int ((pj_tmf (xs 1) (xs 2) (xs 3) 23 (Int32.ofInt 1) (Int32.ofInt (-1)) (Int32.ofInt (-1))).1)]) rfl (fun _ => rfl) ⟨Nat.le_of_ble_eq_true rfl, Nat.le_of_ble_eq_true rfl, pj_rcvI hx⟩ ⟨rfl, rfl, rfl⟩ (pj_E_lc (by decide) (by decide) e1) ?_
  show pj_R _ _ _ _ (G1, 1363, [(4, .int 0), (3, .ref out), (2, .ref am), (1, .ref ax), (0, .ref 0)], [.int ((pj_tmf (xs 1) (xs 2) (xs 3) 23 (Int32.ofInt 1) (Int32.ofInt (-1)) (Int32.ofInt (-1))).1)], mc, ms) _
  refine pj_R_to (G1, 1382, [(4, .int 0), (3, .ref out), (2, .ref am), (1, .ref ax), (0, .ref 0)], [.int (xs 3), .int (xs 2), .int (xs 1), .ref am, .int ((pj_tmf (xs 1) (xs 2) (xs 3) 23 (Int32.ofInt 1) (Int32.ofInt (-1)) (Int32.ofInt (-1))).1)], mc, ms) 1382 17 (fun _ => rfl) ?_
  refine pj_R_ca pj_lc_mon (vs := [.ref am, .int (xs 1), .int (xs 2), .int (xs 3)]) (S2 := [.int ((pj_tmf (xs 1) (xs 2) (xs 3) 23 (Int32.ofInt 1) (Int32.ofInt (-1)) (Int32.ofInt (-1))).1), .int ((pj_tmf (xs 1) (xs 2) (xs 3) 23 (Int32.ofInt 1) (Int32.ofInt (-1)) (Int32.ofInt (-1))).1)]) rfl (fun _ => rfl) ⟨Nat.le_of_ble_eq_true rfl, Nat.le_of_ble_eq_true rfl, pj_rcvI hm1⟩ ⟨rfl, rfl, rfl⟩ (pj_E_lc (by decide) (by decide) e2) ?_
  show pj_R _ _ _ _ (G2, 1385, [(4, .int 0), (3, .ref out), (2, .ref am), (1, .ref ax), (0, .ref 0)], [.int ((pj_tmf (xs 1) (xs 2) (xs 3) 23 (Int32.ofInt 1) (Int32.ofInt (-1)) (Int32.ofInt (-1))).1), .int ((pj_tmf (xs 1) (xs 2) (xs 3) 23 (Int32.ofInt 1) (Int32.ofInt (-1)) (Int32.ofInt (-1))).1)], mc, ms) _
  refine pj_R_icT 1595 rfl rfl (decide_eq_true rfl) ?_
  refine pj_R_to (G2, 29, [(4, .int (0 + Int32.ofInt 5)), (3, .ref out), (2, .ref am), (1, .ref ax), (0, .ref 0)], [.int ((Int32.ofNat 5) - (Int32.ofInt 5)), .int (0 + Int32.ofInt 5)], mc, ms) 29 8 (fun _ => rfl) ?_
  refine pj_R_icT 1601 rfl rfl (by decide) ?_
  refine pj_R_to (G2, 1602, [(4, .int (0 + Int32.ofInt 5)), (3, .ref out), (2, .ref am), (1, .ref ax), (0, .ref 0)], [.int (Int32.ofInt 1)], mc, ms) 1602 2 (fun _ => rfl) ?_
  exact pj_R_rt rfl rfl
theorem pj_gv36 {xs : Nat → Int32} (h0 : xs 0 &&& 63 = 36) (h1 : 0 ≤ (xs 1).toInt ∧ (xs 1).toInt ≤ 16777215) (h2 : 0 ≤ (xs 2).toInt ∧ (xs 2).toInt ≤ 16777215) (h3 : 1 ≤ (xs 3).toInt ∧ (xs 3).toInt ≤ 48) : pj_goal xs := by
  obtain ⟨out, am, ax, o, nn, rw_, fx, fm, s0, f, g, eL, hx, ho, hr, hm, hl, hrw, hrr, n1, n2⟩ := pj_t0c_s
  obtain ⟨G', ff, k, hk⟩ := pj_lw36 (xs := xs) pj_t0.1 pj_t0.2.2.2.2.1 pj_t0.2.2.2.2.2 out am ax o nn rw_ fx fm s0 g hx ho hr hm hl hrw hrr n1 n2 h1 h2 h3
  rw [← eL] at hk
  exact pj_join h0 hk (Nat.le_trans pj_t0_small.1 (by decide)) (Nat.le_trans pj_t0_small.2 (by decide))
