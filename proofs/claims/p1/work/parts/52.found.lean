/-! FOUND, by hand -/
theorem pj_R_bs {C : Nat → pj_F} {n0 : Nat} {xs : Nat → Int32} {M : pj_M} {r : Option Value × pj_G × Nat × Nat} {G : pj_G} {pc mc ms : Nat} {L : pj_L} {S : List Value} {len : Nat} {inf : List Nat} {z : Int} {a n : Nat} {f : Nat → Int32} {j x : Int32} (hf : pj_find M.2.2.2.2.2 pc = some (.bastore, len, inf, z)) (hg : pj_get G a = some (.inl (2, n, .inl f))) (hj : ¬ (j < 0 ∨ n ≤ j.toNatClampNeg)) (h2 : pj_R C n0 xs M (pj_put G a (.inl (2, n, .inl (upd f j.toNatClampNeg (vp_nar .boolean x)))), pc + 1, L, S, mc, ms) r) : pj_R C n0 xs M (G, pc, L, .int x :: .int j :: .ref a :: S, mc, ms) r := by
  refine pj_R_st (t' := (pj_put G a (.inl (2, n, .inl (upd f j.toNatClampNeg (vp_nar .boolean x)))), pc + 1, L, S, 0, 0)) hf (fun call => ?_) h2
  show (pj_asz G (.int x :: .int j :: .ref a :: S)).map (fun r => ((r.1, pc + 1, L, r.2, 0, 0) : pj_T)) = _
  have e : pj_asz G (.int x :: .int j :: .ref a :: S) = some (pj_put G a (.inl (2, n, .inl (upd f j.toNatClampNeg (vp_nar .boolean x)))), S) := by
    unfold pj_asz
    simp only [hg]
    exact if_pos ⟨trivial, hj⟩
  rw [e]
  rfl
theorem pj_l18 : ((Int8.ofInt 18).toInt32).toInt = 18 := by decide
theorem pj_l6 : ((Int8.ofInt 6).toInt32).toInt = 6 := by decide
theorem pj_ltF {v : Int32} (h : 0 ≤ v.toInt) : pj_c1 .lt v 0 = false := by
  simp only [pj_c1, decide_eq_false_iff_not, Int32.lt_iff_toInt_lt, pj_lz0]
  omega
theorem pj_isq0 (G : pj_G) (v : Int32) (h : 0 ≤ v.toInt ∧ v.toInt ≤ 18) : pj_E (pj_cx 1) 16 [.int 0, .int v] G (some (.int (Int32.ofInt 1)), G, 0, 0) := by
  refine pj_E_R (M := pj_m16) rfl rfl (Nat.le_of_ble_eq_true rfl) ?_
  show pj_R _ _ _ _ (G, 0, [(0, .int 0), (1, .int v)], [], 0, 0) _
  refine pj_R_to (G, 33, [(0, .int 0), (1, .int v)], [.int v], 0, 0) 33 4 (fun _ => rfl) ?_
  refine pj_R_ifF rfl (pj_ltF h.1) ?_
  refine pj_R_to (G, 39, [(0, .int 0), (1, .int v)], [.int ((Int8.ofInt 18).toInt32), .int v], 0, 0) 39 3 (fun _ => rfl) ?_
  refine pj_R_icF rfl (by simp only [pj_c1, decide_eq_false_iff_not, Int32.lt_iff_toInt_lt, pj_l18, pj_l6]; omega) ?_
  refine pj_R_to (G, 47, [(0, .int 0), (1, .int v)], [.int (Int32.ofInt 1)], 0, 0) 47 3 (fun _ => rfl) ?_
  exact pj_R_rt rfl rfl
theorem pj_grt0 (G : pj_G) : pj_E (pj_cx 1) 263 [.int 0] G (some (.int (Int8.ofInt 18).toInt32), G, 0, 0) := by
  refine pj_E_R (M := pj_m263) rfl rfl (Nat.le_of_ble_eq_true rfl) ?_
  show pj_R _ _ _ _ (G, 0, [(0, .int 0)], [], 0, 0) _
  refine pj_R_to (G, 2, [(0, .int 0)], [.int (Int32.ofInt 2), .int 0], 0, 0) 2 3 (fun _ => rfl) ?_
  refine pj_R_icF rfl (by decide) ?_
  refine pj_R_to (G, 21, [(0, .int 0)], [.int ((Int8.ofInt 18).toInt32)], 0, 0) 21 3 (fun _ => rfl) ?_
  exact pj_R_rt rfl rfl
theorem pj_isq1 (G : pj_G) (v : Int32) (h : 0 ≤ v.toInt ∧ v.toInt ≤ 18) : pj_E (pj_cx 1) 16 [.int 1, .int v] G (some (.int (Int32.ofInt 1)), G, 0, 0) := by
  refine pj_E_R (M := pj_m16) rfl rfl (Nat.le_of_ble_eq_true rfl) ?_
  show pj_R _ _ _ _ (G, 0, [(0, .int 1), (1, .int v)], [], 0, 0) _
  refine pj_R_to (G, 33, [(0, .int 1), (1, .int v)], [.int v], 0, 0) 33 4 (fun _ => rfl) ?_
  refine pj_R_ifF rfl (pj_ltF h.1) ?_
  refine pj_R_to (G, 39, [(0, .int 1), (1, .int v)], [.int ((Int8.ofInt 18).toInt32), .int v], 0, 0) 39 3 (fun _ => rfl) ?_
  refine pj_R_icF rfl (by simp only [pj_c1, decide_eq_false_iff_not, Int32.lt_iff_toInt_lt, pj_l18, pj_l6]; omega) ?_
  refine pj_R_to (G, 47, [(0, .int 1), (1, .int v)], [.int (Int32.ofInt 1)], 0, 0) 47 3 (fun _ => rfl) ?_
  exact pj_R_rt rfl rfl
theorem pj_grt1 (G : pj_G) : pj_E (pj_cx 1) 263 [.int 1] G (some (.int (Int8.ofInt 18).toInt32), G, 0, 0) := by
  refine pj_E_R (M := pj_m263) rfl rfl (Nat.le_of_ble_eq_true rfl) ?_
  show pj_R _ _ _ _ (G, 0, [(0, .int 1)], [], 0, 0) _
  refine pj_R_to (G, 2, [(0, .int 1)], [.int (Int32.ofInt 2), .int 1], 0, 0) 2 3 (fun _ => rfl) ?_
  refine pj_R_icF rfl (by decide) ?_
  refine pj_R_to (G, 21, [(0, .int 1)], [.int ((Int8.ofInt 18).toInt32)], 0, 0) 21 3 (fun _ => rfl) ?_
  exact pj_R_rt rfl rfl
theorem pj_isq2 (G : pj_G) (v : Int32) (h : 0 ≤ v.toInt ∧ v.toInt ≤ 6) : pj_E (pj_cx 1) 16 [.int 2, .int v] G (some (.int (Int32.ofInt 1)), G, 0, 0) := by
  refine pj_E_R (M := pj_m16) rfl rfl (Nat.le_of_ble_eq_true rfl) ?_
  show pj_R _ _ _ _ (G, 0, [(0, .int 2), (1, .int v)], [], 0, 0) _
  refine pj_R_to (G, 49, [(0, .int 2), (1, .int v)], [.int v], 0, 0) 49 4 (fun _ => rfl) ?_
  refine pj_R_ifF rfl (pj_ltF h.1) ?_
  refine pj_R_to (G, 55, [(0, .int 2), (1, .int v)], [.int ((Int8.ofInt 6).toInt32), .int v], 0, 0) 55 3 (fun _ => rfl) ?_
  refine pj_R_icF rfl (by simp only [pj_c1, decide_eq_false_iff_not, Int32.lt_iff_toInt_lt, pj_l18, pj_l6]; omega) ?_
  refine pj_R_to (G, 63, [(0, .int 2), (1, .int v)], [.int (Int32.ofInt 1)], 0, 0) 63 3 (fun _ => rfl) ?_
  exact pj_R_rt rfl rfl
theorem pj_grt2 (G : pj_G) : pj_E (pj_cx 1) 263 [.int 2] G (some (.int (Int8.ofInt 6).toInt32), G, 0, 0) := by
  refine pj_E_R (M := pj_m263) rfl rfl (Nat.le_of_ble_eq_true rfl) ?_
  show pj_R _ _ _ _ (G, 0, [(0, .int 2)], [], 0, 0) _
  refine pj_R_to (G, 2, [(0, .int 2)], [.int (Int32.ofInt 2), .int 2], 0, 0) 2 3 (fun _ => rfl) ?_
  refine pj_R_icT 10 rfl rfl (by decide) ?_
  refine pj_R_to (G, 12, [(0, .int 2)], [.int (Int32.ofInt 2), .int 2], 0, 0) 12 3 (fun _ => rfl) ?_
  refine pj_R_icF rfl (by decide) ?_
  refine pj_R_to (G, 21, [(0, .int 2)], [.int ((Int8.ofInt 6).toInt32)], 0, 0) 21 3 (fun _ => rfl) ?_
  exact pj_R_rt rfl rfl
theorem pj_isq3 (G : pj_G) (v : Int32) (h : 0 ≤ v.toInt ∧ v.toInt ≤ 1) : pj_E (pj_cx 1) 16 [.int 3, .int v] G (some (.int (Int32.ofInt 1)), G, 0, 0) := by
  refine pj_E_R (M := pj_m16) rfl rfl (Nat.le_of_ble_eq_true rfl) ?_
  show pj_R _ _ _ _ (G, 0, [(0, .int 3), (1, .int v)], [], 0, 0) _
  by_cases hv : v = 0
  · refine pj_R_to (G, 65, [(0, .int 3), (1, .int v)], [.int v], 0, 0) 65 4 (fun _ => rfl) ?_
    refine pj_R_ifT 73 rfl rfl (decide_eq_true hv) ?_
    refine pj_R_to (G, 78, [(0, .int 3), (1, .int v)], [.int (Int32.ofInt 1)], 0, 0) 78 3 (fun _ => rfl) ?_
    exact pj_R_rt rfl rfl
  · have hv1 : v = Int32.ofInt 1 := by
      rw [← Int32.toInt_inj, pj_lz0] at hv
      rw [← Int32.toInt_inj, pj_li1]
      omega
    refine pj_R_to (G, 65, [(0, .int 3), (1, .int v)], [.int v], 0, 0) 65 4 (fun _ => rfl) ?_
    refine pj_R_ifF rfl (decide_eq_false hv) ?_
    refine pj_R_to (G, 70, [(0, .int 3), (1, .int v)], [.int (Int32.ofInt 1), .int v], 0, 0) 70 3 (fun _ => rfl) ?_
    refine pj_R_icF rfl (decide_eq_false (fun z => z hv1)) ?_
    refine pj_R_to (G, 78, [(0, .int 3), (1, .int v)], [.int (Int32.ofInt 1)], 0, 0) 78 3 (fun _ => rfl) ?_
    exact pj_R_rt rfl rfl
theorem pj_grt3 (G : pj_G) : pj_E (pj_cx 1) 263 [.int 3] G (some (.int (Int32.ofInt 1)), G, 0, 0) := by
  refine pj_E_R (M := pj_m263) rfl rfl (Nat.le_of_ble_eq_true rfl) ?_
  show pj_R _ _ _ _ (G, 0, [(0, .int 3)], [], 0, 0) _
  refine pj_R_to (G, 2, [(0, .int 3)], [.int (Int32.ofInt 2), .int 3], 0, 0) 2 3 (fun _ => rfl) ?_
  refine pj_R_icT 10 rfl rfl (by decide) ?_
  refine pj_R_to (G, 12, [(0, .int 3)], [.int (Int32.ofInt 2), .int 3], 0, 0) 12 3 (fun _ => rfl) ?_
  refine pj_R_icT 20 rfl rfl (by decide) ?_
  refine pj_R_to (G, 21, [(0, .int 3)], [.int (Int32.ofInt 1)], 0, 0) 21 2 (fun _ => rfl) ?_
  exact pj_R_rt rfl rfl
theorem pj_faddE (G : pj_G) (fd qa an : Nat) (ff : List Value) (f g : Nat → Int32) (w v i : Int32) (hq : pj_E (pj_cx 1) 16 [.int w, .int v] G (some (.int (Int32.ofInt 1)), G, 0, 0)) (hi : 0 ≤ i.toInt ∧ i.toInt ≤ 1) (hf : pj_get G fd = some (.inr (2, ff))) (hl : ff.length = 4) (h1 : ff[1]? = some (.ref qa)) (h2 : ff[2]? = some (.ref an)) (h3 : ff[3]? = some (.int 0)) (hqa : pj_get G qa = some (.inl (0, 12, .inl f))) (han : pj_get G an = some (.inl (2, 12, .inl g))) : ∃ G' : pj_G, pj_E (pj_cx 2) 17 [.ref fd, .int w, .int v, .int i] G (some (.int (0 + Int32.ofInt 1)), G', 0, 0) ∧ pj_same G G' [fd, qa, an] := by
  have d1 : fd ≠ qa := pj_dif hf hqa (fun h => by cases h)
  have d2 : fd ≠ an := pj_dif hf han (fun h => by cases h)
  have d3 : an ≠ qa := pj_dif han hqa (fun h => by cases h)
  have k1 : pj_get (pj_put G qa (.inl (0, 12, .inl (upd f (0 : Int32).toNatClampNeg ((Int8.ofInt 19).toInt32 * w + v))))) fd = some (.inr (2, ff)) := by rw [pj_gn hqa d1, hf]
  have k2 : pj_get (pj_put G qa (.inl (0, 12, .inl (upd f (0 : Int32).toNatClampNeg ((Int8.ofInt 19).toInt32 * w + v))))) an = some (.inl (2, 12, .inl g)) := by rw [pj_gn hqa d3, han]
  have c1 : pj_c1 .gt i (Int32.ofInt 1) = false := by
    simp only [pj_c1, decide_eq_false_iff_not, Int32.lt_iff_toInt_lt, pj_li1]
    omega
  by_cases hi1 : i = Int32.ofInt 1
  · have k3 : pj_get (pj_put (pj_put G qa (.inl (0, 12, .inl (upd f (0 : Int32).toNatClampNeg ((Int8.ofInt 19).toInt32 * w + v))))) an (.inl (2, 12, .inl (upd g (0 : Int32).toNatClampNeg (vp_nar .boolean (Int32.ofInt 1)))))) fd = some (.inr (2, ff)) := by rw [pj_gn k2 d2, k1]
    have k4 : pj_get (pj_put (pj_put (pj_put G qa (.inl (0, 12, .inl (upd f (0 : Int32).toNatClampNeg ((Int8.ofInt 19).toInt32 * w + v))))) an (.inl (2, 12, .inl (upd g (0 : Int32).toNatClampNeg (vp_nar .boolean (Int32.ofInt 1)))))) fd (.inr (2, ff.set 3 (.int (0 + Int32.ofInt 1))))) fd = some (.inr (2, ff.set 3 (.int (0 + Int32.ofInt 1)))) := pj_gp k3
    refine ⟨pj_put (pj_put (pj_put G qa (.inl (0, 12, .inl (upd f (0 : Int32).toNatClampNeg ((Int8.ofInt 19).toInt32 * w + v))))) an (.inl (2, 12, .inl (upd g (0 : Int32).toNatClampNeg (vp_nar .boolean (Int32.ofInt 1)))))) fd (.inr (2, ff.set 3 (.int (0 + Int32.ofInt 1)))), ?_, fun b hb => ?_⟩
    rotate_left
    · have q1 : b ≠ fd := fun e => hb (by rw [e]; exact List.mem_cons_self)
      have q2 : b ≠ qa := fun e => hb (by rw [e]; exact List.mem_cons_of_mem _ List.mem_cons_self)
      have q3 : b ≠ an := fun e => hb (by rw [e]; exact List.mem_cons_of_mem _ (List.mem_cons_of_mem _ List.mem_cons_self))
      rw [pj_gn k3 q1, pj_gn k2 q3, pj_gn hqa q2]
    refine pj_E_R (M := pj_m17) rfl rfl (Nat.le_of_ble_eq_true rfl) ?_
    show pj_R _ _ _ _ (G, 0, [(0, .ref fd), (1, .int w), (2, .int v), (3, .int i)], [], 0, 0) _
    refine pj_R_to (G, 2, [(0, .ref fd), (1, .int w), (2, .int v), (3, .int i)], [.int v, .int w], 0, 0) 2 3 (fun _ => rfl) ?_
    refine pj_R_ca (pj_cx_mon _) (vs := [.int w, .int v]) (S2 := [.int (Int32.ofInt 1)]) rfl (fun _ => rfl) ⟨Nat.le_of_ble_eq_true rfl, Nat.le_of_ble_eq_true rfl, rfl⟩ ⟨rfl, rfl, rfl⟩ hq ?_
    show pj_R _ _ _ _ (G, 5, [(0, .ref fd), (1, .int w), (2, .int v), (3, .int i)], [.int (Int32.ofInt 1)], 0, 0) _
    refine pj_R_ifF rfl (by decide) ?_
    refine pj_R_to (G, 9, [(0, .ref fd), (1, .int w), (2, .int v), (3, .int i)], [.int i], 0, 0) 9 2 (fun _ => rfl) ?_
    refine pj_R_ifF rfl (pj_ltF hi.1) ?_
    refine pj_R_to (G, 14, [(0, .ref fd), (1, .int w), (2, .int v), (3, .int i)], [.int (Int32.ofInt 1), .int i], 0, 0) 14 3 (fun _ => rfl) ?_
    refine pj_R_icF rfl c1 ?_
    refine pj_R_to (G, 18, [(0, .ref fd), (1, .int w), (2, .int v), (3, .int i)], [.ref fd], 0, 0) 18 2 (fun _ => rfl) ?_
    refine pj_R_gf rfl hf h3 ?_
    refine pj_R_to (G, 23, [(0, .ref fd), (1, .int w), (2, .int v), (3, .int i)], [.int ((Int8.ofInt 12).toInt32), .int 0], 0, 0) 23 2 (fun _ => rfl) ?_
    refine pj_R_icT 28 rfl rfl (by decide) ?_
    refine pj_R_to (G, 29, [(0, .ref fd), (1, .int w), (2, .int v), (3, .int i)], [.ref fd], 0, 0) 29 2 (fun _ => rfl) ?_
    refine pj_R_gf rfl hf h1 ?_
    refine pj_R_to (G, 33, [(0, .ref fd), (1, .int w), (2, .int v), (3, .int i)], [.ref fd, .ref qa], 0, 0) 33 2 (fun _ => rfl) ?_
    refine pj_R_gf rfl hf h3 ?_
    refine pj_R_to (G, 42, [(0, .ref fd), (1, .int w), (2, .int v), (3, .int i)], [.int ((((Int8.ofInt 19).toInt32) * w) + v), .int 0, .ref qa], 0, 0) 42 6 (fun _ => rfl) ?_
    refine pj_R_is rfl hqa (by decide) ?_
    show pj_R _ _ _ _ (pj_put G qa (.inl (0, 12, .inl (upd f (0 : Int32).toNatClampNeg ((Int8.ofInt 19).toInt32 * w + v)))), 43, [(0, .ref fd), (1, .int w), (2, .int v), (3, .int i)], [], 0, 0) _
    refine pj_R_to (pj_put G qa (.inl (0, 12, .inl (upd f (0 : Int32).toNatClampNeg ((Int8.ofInt 19).toInt32 * w + v)))), 44, [(0, .ref fd), (1, .int w), (2, .int v), (3, .int i)], [.ref fd], 0, 0) 44 2 (fun _ => rfl) ?_
    refine pj_R_gf rfl k1 h2 ?_
    refine pj_R_to (pj_put G qa (.inl (0, 12, .inl (upd f (0 : Int32).toNatClampNeg ((Int8.ofInt 19).toInt32 * w + v)))), 48, [(0, .ref fd), (1, .int w), (2, .int v), (3, .int i)], [.ref fd, .ref an], 0, 0) 48 2 (fun _ => rfl) ?_
    refine pj_R_gf rfl k1 h3 ?_
    refine pj_R_to (pj_put G qa (.inl (0, 12, .inl (upd f (0 : Int32).toNatClampNeg ((Int8.ofInt 19).toInt32 * w + v)))), 53, [(0, .ref fd), (1, .int w), (2, .int v), (3, .int i)], [.int (Int32.ofInt 1), .int i, .int 0, .ref an], 0, 0) 53 3 (fun _ => rfl) ?_
    refine pj_R_icF rfl (decide_eq_false (fun z => z hi1)) ?_
    refine pj_R_to (pj_put G qa (.inl (0, 12, .inl (upd f (0 : Int32).toNatClampNeg ((Int8.ofInt 19).toInt32 * w + v)))), 61, [(0, .ref fd), (1, .int w), (2, .int v), (3, .int i)], [.int (Int32.ofInt 1), .int 0, .ref an], 0, 0) 61 3 (fun _ => rfl) ?_
    refine pj_R_bs rfl k2 (by decide) ?_
    show pj_R _ _ _ _ (pj_put (pj_put G qa (.inl (0, 12, .inl (upd f (0 : Int32).toNatClampNeg ((Int8.ofInt 19).toInt32 * w + v))))) an (.inl (2, 12, .inl (upd g (0 : Int32).toNatClampNeg (vp_nar .boolean (Int32.ofInt 1))))), 62, [(0, .ref fd), (1, .int w), (2, .int v), (3, .int i)], [], 0, 0) _
    refine pj_R_to (pj_put (pj_put G qa (.inl (0, 12, .inl (upd f (0 : Int32).toNatClampNeg ((Int8.ofInt 19).toInt32 * w + v))))) an (.inl (2, 12, .inl (upd g (0 : Int32).toNatClampNeg (vp_nar .boolean (Int32.ofInt 1))))), 64, [(0, .ref fd), (1, .int w), (2, .int v), (3, .int i)], [.ref fd, .ref fd], 0, 0) 64 3 (fun _ => rfl) ?_
    refine pj_R_gf rfl k3 h3 ?_
    refine pj_R_to (pj_put (pj_put G qa (.inl (0, 12, .inl (upd f (0 : Int32).toNatClampNeg ((Int8.ofInt 19).toInt32 * w + v))))) an (.inl (2, 12, .inl (upd g (0 : Int32).toNatClampNeg (vp_nar .boolean (Int32.ofInt 1))))), 69, [(0, .ref fd), (1, .int w), (2, .int v), (3, .int i)], [.int (0 + (Int32.ofInt 1)), .ref fd], 0, 0) 69 3 (fun _ => rfl) ?_
    refine pj_R_pf rfl k3 (by show 3 < ff.length; rw [hl]; decide) rfl ?_
    show pj_R _ _ _ _ (pj_put (pj_put (pj_put G qa (.inl (0, 12, .inl (upd f (0 : Int32).toNatClampNeg ((Int8.ofInt 19).toInt32 * w + v))))) an (.inl (2, 12, .inl (upd g (0 : Int32).toNatClampNeg (vp_nar .boolean (Int32.ofInt 1)))))) fd (.inr (2, ff.set 3 (.int (0 + Int32.ofInt 1)))), 72, [(0, .ref fd), (1, .int w), (2, .int v), (3, .int i)], [], 0, 0) _
    refine pj_R_to (pj_put (pj_put (pj_put G qa (.inl (0, 12, .inl (upd f (0 : Int32).toNatClampNeg ((Int8.ofInt 19).toInt32 * w + v))))) an (.inl (2, 12, .inl (upd g (0 : Int32).toNatClampNeg (vp_nar .boolean (Int32.ofInt 1)))))) fd (.inr (2, ff.set 3 (.int (0 + Int32.ofInt 1)))), 73, [(0, .ref fd), (1, .int w), (2, .int v), (3, .int i)], [.ref fd], 0, 0) 73 2 (fun _ => rfl) ?_
    refine pj_R_gf rfl k4 (by show (ff.set 3 _)[3]? = _; rw [List.getElem?_set_self (by rw [hl]; decide)]) ?_
    exact pj_R_rt rfl rfl
  · have k3 : pj_get (pj_put (pj_put G qa (.inl (0, 12, .inl (upd f (0 : Int32).toNatClampNeg ((Int8.ofInt 19).toInt32 * w + v))))) an (.inl (2, 12, .inl (upd g (0 : Int32).toNatClampNeg (vp_nar .boolean (Int32.ofInt 0)))))) fd = some (.inr (2, ff)) := by rw [pj_gn k2 d2, k1]
    have k4 : pj_get (pj_put (pj_put (pj_put G qa (.inl (0, 12, .inl (upd f (0 : Int32).toNatClampNeg ((Int8.ofInt 19).toInt32 * w + v))))) an (.inl (2, 12, .inl (upd g (0 : Int32).toNatClampNeg (vp_nar .boolean (Int32.ofInt 0)))))) fd (.inr (2, ff.set 3 (.int (0 + Int32.ofInt 1))))) fd = some (.inr (2, ff.set 3 (.int (0 + Int32.ofInt 1)))) := pj_gp k3
    refine ⟨pj_put (pj_put (pj_put G qa (.inl (0, 12, .inl (upd f (0 : Int32).toNatClampNeg ((Int8.ofInt 19).toInt32 * w + v))))) an (.inl (2, 12, .inl (upd g (0 : Int32).toNatClampNeg (vp_nar .boolean (Int32.ofInt 0)))))) fd (.inr (2, ff.set 3 (.int (0 + Int32.ofInt 1)))), ?_, fun b hb => ?_⟩
    rotate_left
    · have q1 : b ≠ fd := fun e => hb (by rw [e]; exact List.mem_cons_self)
      have q2 : b ≠ qa := fun e => hb (by rw [e]; exact List.mem_cons_of_mem _ List.mem_cons_self)
      have q3 : b ≠ an := fun e => hb (by rw [e]; exact List.mem_cons_of_mem _ (List.mem_cons_of_mem _ List.mem_cons_self))
      rw [pj_gn k3 q1, pj_gn k2 q3, pj_gn hqa q2]
    refine pj_E_R (M := pj_m17) rfl rfl (Nat.le_of_ble_eq_true rfl) ?_
    show pj_R _ _ _ _ (G, 0, [(0, .ref fd), (1, .int w), (2, .int v), (3, .int i)], [], 0, 0) _
    refine pj_R_to (G, 2, [(0, .ref fd), (1, .int w), (2, .int v), (3, .int i)], [.int v, .int w], 0, 0) 2 3 (fun _ => rfl) ?_
    refine pj_R_ca (pj_cx_mon _) (vs := [.int w, .int v]) (S2 := [.int (Int32.ofInt 1)]) rfl (fun _ => rfl) ⟨Nat.le_of_ble_eq_true rfl, Nat.le_of_ble_eq_true rfl, rfl⟩ ⟨rfl, rfl, rfl⟩ hq ?_
    show pj_R _ _ _ _ (G, 5, [(0, .ref fd), (1, .int w), (2, .int v), (3, .int i)], [.int (Int32.ofInt 1)], 0, 0) _
    refine pj_R_ifF rfl (by decide) ?_
    refine pj_R_to (G, 9, [(0, .ref fd), (1, .int w), (2, .int v), (3, .int i)], [.int i], 0, 0) 9 2 (fun _ => rfl) ?_
    refine pj_R_ifF rfl (pj_ltF hi.1) ?_
    refine pj_R_to (G, 14, [(0, .ref fd), (1, .int w), (2, .int v), (3, .int i)], [.int (Int32.ofInt 1), .int i], 0, 0) 14 3 (fun _ => rfl) ?_
    refine pj_R_icF rfl c1 ?_
    refine pj_R_to (G, 18, [(0, .ref fd), (1, .int w), (2, .int v), (3, .int i)], [.ref fd], 0, 0) 18 2 (fun _ => rfl) ?_
    refine pj_R_gf rfl hf h3 ?_
    refine pj_R_to (G, 23, [(0, .ref fd), (1, .int w), (2, .int v), (3, .int i)], [.int ((Int8.ofInt 12).toInt32), .int 0], 0, 0) 23 2 (fun _ => rfl) ?_
    refine pj_R_icT 28 rfl rfl (by decide) ?_
    refine pj_R_to (G, 29, [(0, .ref fd), (1, .int w), (2, .int v), (3, .int i)], [.ref fd], 0, 0) 29 2 (fun _ => rfl) ?_
    refine pj_R_gf rfl hf h1 ?_
    refine pj_R_to (G, 33, [(0, .ref fd), (1, .int w), (2, .int v), (3, .int i)], [.ref fd, .ref qa], 0, 0) 33 2 (fun _ => rfl) ?_
    refine pj_R_gf rfl hf h3 ?_
    refine pj_R_to (G, 42, [(0, .ref fd), (1, .int w), (2, .int v), (3, .int i)], [.int ((((Int8.ofInt 19).toInt32) * w) + v), .int 0, .ref qa], 0, 0) 42 6 (fun _ => rfl) ?_
    refine pj_R_is rfl hqa (by decide) ?_
    show pj_R _ _ _ _ (pj_put G qa (.inl (0, 12, .inl (upd f (0 : Int32).toNatClampNeg ((Int8.ofInt 19).toInt32 * w + v)))), 43, [(0, .ref fd), (1, .int w), (2, .int v), (3, .int i)], [], 0, 0) _
    refine pj_R_to (pj_put G qa (.inl (0, 12, .inl (upd f (0 : Int32).toNatClampNeg ((Int8.ofInt 19).toInt32 * w + v)))), 44, [(0, .ref fd), (1, .int w), (2, .int v), (3, .int i)], [.ref fd], 0, 0) 44 2 (fun _ => rfl) ?_
    refine pj_R_gf rfl k1 h2 ?_
    refine pj_R_to (pj_put G qa (.inl (0, 12, .inl (upd f (0 : Int32).toNatClampNeg ((Int8.ofInt 19).toInt32 * w + v)))), 48, [(0, .ref fd), (1, .int w), (2, .int v), (3, .int i)], [.ref fd, .ref an], 0, 0) 48 2 (fun _ => rfl) ?_
    refine pj_R_gf rfl k1 h3 ?_
    refine pj_R_to (pj_put G qa (.inl (0, 12, .inl (upd f (0 : Int32).toNatClampNeg ((Int8.ofInt 19).toInt32 * w + v)))), 53, [(0, .ref fd), (1, .int w), (2, .int v), (3, .int i)], [.int (Int32.ofInt 1), .int i, .int 0, .ref an], 0, 0) 53 3 (fun _ => rfl) ?_
    refine pj_R_icT 60 rfl rfl (decide_eq_true hi1) ?_
    refine pj_R_to (pj_put G qa (.inl (0, 12, .inl (upd f (0 : Int32).toNatClampNeg ((Int8.ofInt 19).toInt32 * w + v)))), 61, [(0, .ref fd), (1, .int w), (2, .int v), (3, .int i)], [.int (Int32.ofInt 0), .int 0, .ref an], 0, 0) 61 2 (fun _ => rfl) ?_
    refine pj_R_bs rfl k2 (by decide) ?_
    show pj_R _ _ _ _ (pj_put (pj_put G qa (.inl (0, 12, .inl (upd f (0 : Int32).toNatClampNeg ((Int8.ofInt 19).toInt32 * w + v))))) an (.inl (2, 12, .inl (upd g (0 : Int32).toNatClampNeg (vp_nar .boolean (Int32.ofInt 0))))), 62, [(0, .ref fd), (1, .int w), (2, .int v), (3, .int i)], [], 0, 0) _
    refine pj_R_to (pj_put (pj_put G qa (.inl (0, 12, .inl (upd f (0 : Int32).toNatClampNeg ((Int8.ofInt 19).toInt32 * w + v))))) an (.inl (2, 12, .inl (upd g (0 : Int32).toNatClampNeg (vp_nar .boolean (Int32.ofInt 0))))), 64, [(0, .ref fd), (1, .int w), (2, .int v), (3, .int i)], [.ref fd, .ref fd], 0, 0) 64 3 (fun _ => rfl) ?_
    refine pj_R_gf rfl k3 h3 ?_
    refine pj_R_to (pj_put (pj_put G qa (.inl (0, 12, .inl (upd f (0 : Int32).toNatClampNeg ((Int8.ofInt 19).toInt32 * w + v))))) an (.inl (2, 12, .inl (upd g (0 : Int32).toNatClampNeg (vp_nar .boolean (Int32.ofInt 0))))), 69, [(0, .ref fd), (1, .int w), (2, .int v), (3, .int i)], [.int (0 + (Int32.ofInt 1)), .ref fd], 0, 0) 69 3 (fun _ => rfl) ?_
    refine pj_R_pf rfl k3 (by show 3 < ff.length; rw [hl]; decide) rfl ?_
    show pj_R _ _ _ _ (pj_put (pj_put (pj_put G qa (.inl (0, 12, .inl (upd f (0 : Int32).toNatClampNeg ((Int8.ofInt 19).toInt32 * w + v))))) an (.inl (2, 12, .inl (upd g (0 : Int32).toNatClampNeg (vp_nar .boolean (Int32.ofInt 0)))))) fd (.inr (2, ff.set 3 (.int (0 + Int32.ofInt 1)))), 72, [(0, .ref fd), (1, .int w), (2, .int v), (3, .int i)], [], 0, 0) _
    refine pj_R_to (pj_put (pj_put (pj_put G qa (.inl (0, 12, .inl (upd f (0 : Int32).toNatClampNeg ((Int8.ofInt 19).toInt32 * w + v))))) an (.inl (2, 12, .inl (upd g (0 : Int32).toNatClampNeg (vp_nar .boolean (Int32.ofInt 0)))))) fd (.inr (2, ff.set 3 (.int (0 + Int32.ofInt 1)))), 73, [(0, .ref fd), (1, .int w), (2, .int v), (3, .int i)], [.ref fd], 0, 0) 73 2 (fun _ => rfl) ?_
    refine pj_R_gf rfl k4 (by show (ff.set 3 _)[3]? = _; rw [List.getElem?_set_self (by rw [hl]; decide)]) ?_
    exact pj_R_rt rfl rfl
theorem pj_foundX (G : pj_G) (ax fd qa an : Nat) (fx ff : List Value) (f g : Nat → Int32) (w v i : Int32) (hq : pj_E (pj_cx 1) 16 [.int w, .int v] G (some (.int (Int32.ofInt 1)), G, 0, 0)) (hi : 0 ≤ i.toInt ∧ i.toInt ≤ 1) (hx : pj_get G ax = some (.inr (11, fx))) (h5 : fx[5]? = some (.ref fd)) (hf : pj_get G fd = some (.inr (2, ff))) (hl : ff.length = 4) (h1 : ff[1]? = some (.ref qa)) (h2 : ff[2]? = some (.ref an)) (h3 : ff[3]? = some (.int 0)) (hqa : pj_get G qa = some (.inl (0, 12, .inl f))) (han : pj_get G an = some (.inl (2, 12, .inl g))) : ∃ G' : pj_G, pj_E (pj_cx 3) 148 [.ref ax, .int w, .int v, .int i] G (some (.int (0 + Int32.ofInt 1)), G', 0, 0) ∧ pj_same G G' [fd, qa, an] := by
  obtain ⟨G1, e1, s1⟩ := pj_faddE G fd qa an ff f g w v i hq hi hf hl h1 h2 h3 hqa han
  refine ⟨G1, ?_, s1⟩
  refine pj_E_R (M := pj_m148) rfl rfl (Nat.le_of_ble_eq_true rfl) ?_
  show pj_R _ _ _ _ (G, 0, [(0, .ref ax), (1, .int w), (2, .int v), (3, .int i)], [], 0, 0) _
  refine pj_R_to (G, 1, [(0, .ref ax), (1, .int w), (2, .int v), (3, .int i)], [.ref ax], 0, 0) 1 2 (fun _ => rfl) ?_
  refine pj_R_gf rfl hx h5 ?_
  refine pj_R_to (G, 7, [(0, .ref ax), (1, .int w), (2, .int v), (3, .int i)], [.int i, .int v, .int w, .ref fd], 0, 0) 7 4 (fun _ => rfl) ?_
  refine pj_R_ca (pj_cx_mon _) (vs := [.ref fd, .int w, .int v, .int i]) (S2 := [.int (0 + Int32.ofInt 1)]) rfl (fun _ => rfl) ⟨Nat.le_of_ble_eq_true rfl, Nat.le_of_ble_eq_true rfl, pj_rcvI hf⟩ ⟨rfl, rfl, rfl⟩ e1 ?_
  show pj_R _ _ _ _ (G1, 10, [(0, .ref ax), (1, .int w), (2, .int v), (3, .int i)], [.int (0 + Int32.ofInt 1)], 0, 0) _
  exact pj_R_rt rfl rfl
theorem pj_arr {G : pj_G} {a b : Nat} {f g : Nat → Int32} (ha : pj_get G a = some (.inl (0, 12, .inl f))) (hb : ∃ g, pj_get G b = some (.inl (0, 12, .inl g))) : ∃ g', pj_get (pj_put G a (.inl (0, 12, .inl g))) b = some (.inl (0, 12, .inl g')) := by
  by_cases e : b = a
  · rw [e]
    exact ⟨g, pj_gp ha⟩
  · obtain ⟨h, hb⟩ := hb
    exact ⟨h, by rw [pj_gn ha e, hb]⟩
theorem pj_foundM (G : pj_G) (a q1 q2 q3 : Nat) (fs : List Value) (w v i gq : Int32) (hw : 0 ≤ w.toInt ∧ w.toInt ≤ 3) (hv : 0 ≤ v.toInt ∧ v.toInt ≤ gq.toInt) (hi : 0 ≤ i.toInt ∧ i.toInt ≤ 1) (hgq : ∀ G, pj_E (pj_cx 1) 263 [.int w] G (some (.int gq), G, 0, 0)) (hm : pj_get G a = some (.inr (12, fs))) (hl : fs.length = 60) (h48 : fs[48]? = some (.int 0)) (h49 : fs[49]? = some (.ref q1)) (h50 : fs[50]? = some (.ref q2)) (h51 : fs[51]? = some (.ref q3)) (k1 : ∃ g, pj_get G q1 = some (.inl (0, 12, .inl g))) (k2 : ∃ g, pj_get G q2 = some (.inl (0, 12, .inl g))) (k3 : ∃ g, pj_get G q3 = some (.inl (0, 12, .inl g))) : ∃ G' : pj_G, pj_E (pj_cx 2) 264 [.ref a, .int w, .int v, .int i] G (some (.int (0 + Int32.ofInt 1)), G', 0, 0) := by
  have hc := hm
  have z0 : (Int64.ofNat 0).toInt = 0 := by decide
  have z1 : (Int64.ofNat 1).toInt = 1 := by decide
  have z3 : (Int64.ofInt 3).toInt = 3 := by decide
  obtain ⟨fa, hfa⟩ : ∃ fa, fa = fs.set 0 (.int (Int32.ofInt 0)) := ⟨_, rfl⟩
  have la : fa.length = 60 := by rw [hfa, List.length_set, hl]
  have A48 : fa[48]? = some (.int 0) := by rw [hfa, List.getElem?_set_ne (by decide), h48]
  have A49 : fa[49]? = some (.ref q1) := by rw [hfa, List.getElem?_set_ne (by decide), h49]
  have A50 : fa[50]? = some (.ref q2) := by rw [hfa, List.getElem?_set_ne (by decide), h50]
  have A51 : fa[51]? = some (.ref q3) := by rw [hfa, List.getElem?_set_ne (by decide), h51]
  have Ga : pj_get (pj_ob G a fa) a = some (.inr (12, fa)) := pj_gp hm
  have n1 : q1 ≠ a := by obtain ⟨g, k1⟩ := k1; exact pj_dif k1 hm (fun h => by cases h)
  have n2 : q2 ≠ a := by obtain ⟨g, k2⟩ := k2; exact pj_dif k2 hm (fun h => by cases h)
  have n3 : q3 ≠ a := by obtain ⟨g, k3⟩ := k3; exact pj_dif k3 hm (fun h => by cases h)
  have s0 : pj_same G (pj_ob G a fa) [a] := pj_s1 hm
  rw [← s0 q1 (pj_n1 n1)] at k1
  rw [← s0 q2 (pj_n1 n2)] at k2
  rw [← s0 q3 (pj_n1 n3)] at k3
  have start : ∀ r, pj_R (pj_cx 1) 0 pj_x0 pj_m264 (pj_ob G a fa, 52, [(0, .ref a), (1, .int w), (2, .int v), (3, .int i)], [], 0, 0) r → pj_R (pj_cx 1) 0 pj_x0 pj_m264 (G, 0, [(0, .ref a), (1, .int w), (2, .int v), (3, .int i)], [], 0, 0) r := by
    intro r h
    refine pj_R_to (G, 2, [(0, .ref a), (1, .int w), (2, .int v), (3, .int i)], [.int (Int32.ofInt 0), .ref a], 0, 0) 2 3 (fun _ => rfl) ?_
    refine pj_R_pf rfl hm (by show 0 < fs.length; rw [hl]; decide) rfl ?_
    show pj_R _ _ _ _ (pj_ob G a (fs.set 0 (.int (Int32.ofInt 0))), 5, [(0, .ref a), (1, .int w), (2, .int v), (3, .int i)], [], 0, 0) _
    rw [← hfa]
    refine pj_R_to (pj_ob G a fa, 11, [(0, .ref a), (1, .int w), (2, .int v), (3, .int i)], [.long (Int64.ofInt 3), .long (Int64.ofNat 0), .long w.toInt64], 0, 0) 11 5 (fun _ => rfl) ?_
    refine pj_R_ca (pj_cx_mon _) (vs := [.long w.toInt64, .long (Int64.ofNat 0), .long (Int64.ofInt 3)]) (S2 := [.int (Int32.ofInt 1)]) rfl (fun _ => rfl) ⟨Nat.le_of_ble_eq_true rfl, Nat.le_of_ble_eq_true rfl, rfl⟩ ⟨rfl, rfl, rfl⟩ (pj_inE _ _ _ _ (by rw [Int32.toInt_toInt64, z0]; omega) (by rw [Int32.toInt_toInt64, z3]; omega)) ?_
    show pj_R _ _ _ _ (pj_ob G a fa, 14, [(0, .ref a), (1, .int w), (2, .int v), (3, .int i)], [.int (Int32.ofInt 1)], 0, 0) _
    refine pj_R_ifF rfl (by decide) ?_
    refine pj_R_to (pj_ob G a fa, 21, [(0, .ref a), (1, .int w), (2, .int v), (3, .int i)], [.int w, .long (Int64.ofNat 0), .long v.toInt64], 0, 0) 21 5 (fun _ => rfl) ?_
    refine pj_R_ca (pj_cx_mon _) (vs := [.int w]) (S2 := [.int gq, .long (Int64.ofNat 0), .long v.toInt64]) rfl (fun _ => rfl) ⟨Nat.le_of_ble_eq_true rfl, Nat.le_of_ble_eq_true rfl, rfl⟩ ⟨rfl, rfl, rfl⟩ (hgq _) ?_
    show pj_R _ _ _ _ (pj_ob G a fa, 24, [(0, .ref a), (1, .int w), (2, .int v), (3, .int i)], [.int gq, .long (Int64.ofNat 0), .long v.toInt64], 0, 0) _
    refine pj_R_to (pj_ob G a fa, 25, [(0, .ref a), (1, .int w), (2, .int v), (3, .int i)], [.long gq.toInt64, .long (Int64.ofNat 0), .long v.toInt64], 0, 0) 25 2 (fun _ => rfl) ?_
    refine pj_R_ca (pj_cx_mon _) (vs := [.long v.toInt64, .long (Int64.ofNat 0), .long gq.toInt64]) (S2 := [.int (Int32.ofInt 1)]) rfl (fun _ => rfl) ⟨Nat.le_of_ble_eq_true rfl, Nat.le_of_ble_eq_true rfl, rfl⟩ ⟨rfl, rfl, rfl⟩ (pj_inE _ _ _ _ (by rw [Int32.toInt_toInt64, z0]; omega) (by rw [Int32.toInt_toInt64, Int32.toInt_toInt64]; omega)) ?_
    show pj_R _ _ _ _ (pj_ob G a fa, 28, [(0, .ref a), (1, .int w), (2, .int v), (3, .int i)], [.int (Int32.ofInt 1)], 0, 0) _
    refine pj_R_ifF rfl (by decide) ?_
    refine pj_R_to (pj_ob G a fa, 35, [(0, .ref a), (1, .int w), (2, .int v), (3, .int i)], [.long (Int64.ofNat 1), .long (Int64.ofNat 0), .long i.toInt64], 0, 0) 35 5 (fun _ => rfl) ?_
    refine pj_R_ca (pj_cx_mon _) (vs := [.long i.toInt64, .long (Int64.ofNat 0), .long (Int64.ofNat 1)]) (S2 := [.int (Int32.ofInt 1)]) rfl (fun _ => rfl) ⟨Nat.le_of_ble_eq_true rfl, Nat.le_of_ble_eq_true rfl, rfl⟩ ⟨rfl, rfl, rfl⟩ (pj_inE _ _ _ _ (by rw [Int32.toInt_toInt64, z0]; omega) (by rw [Int32.toInt_toInt64, z1]; omega)) ?_
    show pj_R _ _ _ _ (pj_ob G a fa, 38, [(0, .ref a), (1, .int w), (2, .int v), (3, .int i)], [.int (Int32.ofInt 1)], 0, 0) _
    refine pj_R_ifF rfl (by decide) ?_
    refine pj_R_to (pj_ob G a fa, 42, [(0, .ref a), (1, .int w), (2, .int v), (3, .int i)], [.ref a], 0, 0) 42 2 (fun _ => rfl) ?_
    refine pj_R_gf rfl Ga A48 ?_
    refine pj_R_to (pj_ob G a fa, 47, [(0, .ref a), (1, .int w), (2, .int v), (3, .int i)], [.int ((Int8.ofInt 12).toInt32), .int 0], 0, 0) 47 2 (fun _ => rfl) ?_
    refine pj_R_icT 52 rfl rfl (by decide) ?_
    exact h
  generalize pj_ob G a fa = H at *
  obtain ⟨g1, k1⟩ := k1
  have m1 : a ≠ q1 := Ne.symm n1
  have m2 : a ≠ q2 := Ne.symm n2
  have m3 : a ≠ q3 := Ne.symm n3
  have a1 : pj_get (pj_put H q1 (.inl (0, 12, .inl (upd g1 (0 : Int32).toNatClampNeg w)))) a = some (.inr (12, fa)) := by rw [pj_gn k1 m1, Ga]
  obtain ⟨g2, t2⟩ := pj_arr (g := upd g1 (0 : Int32).toNatClampNeg w) k1 k2
  obtain ⟨g3, t3⟩ := pj_arr (g := upd g1 (0 : Int32).toNatClampNeg w) k1 k3
  obtain ⟨H1, hH1⟩ : ∃ H1, H1 = pj_put H q1 (.inl (0, 12, .inl (upd g1 (0 : Int32).toNatClampNeg w))) := ⟨_, rfl⟩
  rw [← hH1] at a1 t2 t3
  have a2 : pj_get (pj_put H1 q2 (.inl (0, 12, .inl (upd g2 (0 : Int32).toNatClampNeg v)))) a = some (.inr (12, fa)) := by rw [pj_gn t2 m2, a1]
  obtain ⟨g4, t4⟩ := pj_arr (g := upd g2 (0 : Int32).toNatClampNeg v) t2 ⟨g3, t3⟩
  obtain ⟨H2, hH2⟩ : ∃ H2, H2 = pj_put H1 q2 (.inl (0, 12, .inl (upd g2 (0 : Int32).toNatClampNeg v))) := ⟨_, rfl⟩
  rw [← hH2] at a2 t4
  have a3 : pj_get (pj_put H2 q3 (.inl (0, 12, .inl (upd g4 (0 : Int32).toNatClampNeg i)))) a = some (.inr (12, fa)) := by rw [pj_gn t4 m3, a2]
  obtain ⟨H3, hH3⟩ : ∃ H3, H3 = pj_put H2 q3 (.inl (0, 12, .inl (upd g4 (0 : Int32).toNatClampNeg i))) := ⟨_, rfl⟩
  rw [← hH3] at a3
  have a4 : pj_get (pj_put H3 a (.inr (12, fa.set 48 (.int (0 + Int32.ofInt 1))))) a = some (.inr (12, fa.set 48 (.int (0 + Int32.ofInt 1)))) := pj_gp a3
  refine ⟨pj_put H3 a (.inr (12, fa.set 48 (.int (0 + Int32.ofInt 1)))), ?_⟩
  refine pj_E_R (M := pj_m264) rfl rfl (Nat.le_of_ble_eq_true rfl) ?_
  show pj_R _ _ _ _ (G, 0, [(0, .ref a), (1, .int w), (2, .int v), (3, .int i)], [], 0, 0) _
  refine start _ ?_
  refine pj_R_to (H, 53, [(0, .ref a), (1, .int w), (2, .int v), (3, .int i)], [.ref a], 0, 0) 53 2 (fun _ => rfl) ?_
  refine pj_R_gf rfl Ga A49 ?_
  refine pj_R_to (H, 57, [(0, .ref a), (1, .int w), (2, .int v), (3, .int i)], [.ref a, .ref q1], 0, 0) 57 2 (fun _ => rfl) ?_
  refine pj_R_gf rfl Ga A48 ?_
  refine pj_R_to (H, 61, [(0, .ref a), (1, .int w), (2, .int v), (3, .int i)], [.int w, .int 0, .ref q1], 0, 0) 61 2 (fun _ => rfl) ?_
  refine pj_R_is rfl k1 (by decide) ?_
  show pj_R _ _ _ _ (pj_put H q1 (.inl (0, 12, .inl (upd g1 (0 : Int32).toNatClampNeg w))), 62, [(0, .ref a), (1, .int w), (2, .int v), (3, .int i)], [], 0, 0) _
  rw [← hH1]
  refine pj_R_to (H1, 63, [(0, .ref a), (1, .int w), (2, .int v), (3, .int i)], [.ref a], 0, 0) 63 2 (fun _ => rfl) ?_
  refine pj_R_gf rfl a1 A50 ?_
  refine pj_R_to (H1, 67, [(0, .ref a), (1, .int w), (2, .int v), (3, .int i)], [.ref a, .ref q2], 0, 0) 67 2 (fun _ => rfl) ?_
  refine pj_R_gf rfl a1 A48 ?_
  refine pj_R_to (H1, 71, [(0, .ref a), (1, .int w), (2, .int v), (3, .int i)], [.int v, .int 0, .ref q2], 0, 0) 71 2 (fun _ => rfl) ?_
  refine pj_R_is rfl t2 (by decide) ?_
  show pj_R _ _ _ _ (pj_put H1 q2 (.inl (0, 12, .inl (upd g2 (0 : Int32).toNatClampNeg v))), 72, [(0, .ref a), (1, .int w), (2, .int v), (3, .int i)], [], 0, 0) _
  rw [← hH2]
  refine pj_R_to (H2, 73, [(0, .ref a), (1, .int w), (2, .int v), (3, .int i)], [.ref a], 0, 0) 73 2 (fun _ => rfl) ?_
  refine pj_R_gf rfl a2 A51 ?_
  refine pj_R_to (H2, 77, [(0, .ref a), (1, .int w), (2, .int v), (3, .int i)], [.ref a, .ref q3], 0, 0) 77 2 (fun _ => rfl) ?_
  refine pj_R_gf rfl a2 A48 ?_
  refine pj_R_to (H2, 81, [(0, .ref a), (1, .int w), (2, .int v), (3, .int i)], [.int i, .int 0, .ref q3], 0, 0) 81 2 (fun _ => rfl) ?_
  refine pj_R_is rfl t4 (by decide) ?_
  show pj_R _ _ _ _ (pj_put H2 q3 (.inl (0, 12, .inl (upd g4 (0 : Int32).toNatClampNeg i))), 82, [(0, .ref a), (1, .int w), (2, .int v), (3, .int i)], [], 0, 0) _
  rw [← hH3]
  refine pj_R_to (H3, 84, [(0, .ref a), (1, .int w), (2, .int v), (3, .int i)], [.ref a, .ref a], 0, 0) 84 3 (fun _ => rfl) ?_
  refine pj_R_gf rfl a3 A48 ?_
  refine pj_R_to (H3, 89, [(0, .ref a), (1, .int w), (2, .int v), (3, .int i)], [.int (0 + (Int32.ofInt 1)), .ref a], 0, 0) 89 3 (fun _ => rfl) ?_
  refine pj_R_pf rfl a3 (by show 48 < fa.length; rw [la]; decide) rfl ?_
  show pj_R _ _ _ _ (pj_put H3 a (.inr (12, fa.set 48 (.int (0 + Int32.ofInt 1)))), 92, [(0, .ref a), (1, .int w), (2, .int v), (3, .int i)], [], 0, 0) _
  refine pj_R_to (pj_put H3 a (.inr (12, fa.set 48 (.int (0 + Int32.ofInt 1)))), 93, [(0, .ref a), (1, .int w), (2, .int v), (3, .int i)], [.ref a], 0, 0) 93 2 (fun _ => rfl) ?_
  refine pj_R_gf rfl a4 (by show (fa.set 48 _)[48]? = _; rw [List.getElem?_set_self (by rw [la]; decide)]) ?_
  exact pj_R_rt rfl rfl
/-- the law's entries that this case runs over -/
def pj_law31 : pj_M := (pj_law.1, pj_law.2.1, 8, some .boolean, pj_law.2.2.2.2.1, [(39, .tableswitch 1556 0 43 #[189, 214, 239, 252, 265, 278, 291, 359, 427, 495, 556, 593, 630, 667, 704, 729, 742, 755, 792, 817, 854, 891, 904, 929, 954, 967, 980, 1005, 1018, 1043, 1104, 1153, 1202, 1215, 1228, 1241, 1302, 1351, 1376, 1389, 1426, 1451, 1476, 1501], 189, [], 0), (1192, .aload_n 1, 1, [], 0), (1193, .aload_n 0, 1, [], 0), (1194, .iload 4, 2, [], 0), (1196, .iconst 1, 1, [], 0), (1197, .iadd, 1, [], 0), (1198, .iaload, 1, [], 0), (1199, .aload_n 0, 1, [], 0), (1200, .iload 4, 2, [], 0), (1202, .iconst 2, 1, [], 0), (1203, .iadd, 1, [], 0), (1204, .iaload, 1, [], 0), (1205, .aload_n 0, 1, [], 0), (1206, .iload 4, 2, [], 0), (1208, .iconst 3, 1, [], 0), (1209, .iadd, 1, [], 0), (1210, .iaload, 1, [], 0), (1211, .invokevirtual 161, 3, [0, 4, 148, 11, 1144], 0), (1214, .aload_n 2, 1, [], 0), (1215, .aload_n 0, 1, [], 0), (1216, .iload 4, 2, [], 0), (1218, .iconst 1, 1, [], 0), (1219, .iadd, 1, [], 0), (1220, .iaload, 1, [], 0), (1221, .aload_n 0, 1, [], 0), (1222, .iload 4, 2, [], 0), (1224, .iconst 2, 1, [], 0), (1225, .iadd, 1, [], 0), (1226, .iaload, 1, [], 0), (1227, .aload_n 0, 1, [], 0), (1228, .iload 4, 2, [], 0), (1230, .iconst 3, 1, [], 0), (1231, .iadd, 1, [], 0), (1232, .iaload, 1, [], 0), (1233, .invokevirtual 164, 3, [0, 4, 264, 12, 1958], 0), (1236, .if_icmp .eq 359, 3, [1595], 0), (1595, .iinc 4 5, 3, [], 0), (1598, .goto (-1575), 3, [23], 0), (23, .iload 4, 2, [], 0), (25, .aload_n 0, 1, [], 0), (26, .arraylength, 1, [], 0), (27, .iconst 5, 1, [], 0), (28, .isub, 1, [], 0), (29, .if_icmp .gt 1572, 3, [1601], 0), (1601, .iconst 1, 1, [], 0), (1602, .ireturn, 1, [], 0)])
set_option maxRecDepth 100000 in
theorem pj_law31_ok : pj_law31.2.2.2.2.2.all (fun q => decide (pj_find pj_law.2.2.2.2.2 q.1 = some q.2)) = true := by decide +kernel
theorem pj_law31_nr : pj_law31.2.2.1 = pj_law.2.2.1 ∧ pj_law31.2.2.2.1 = pj_law.2.2.2.1 := ⟨rfl, rfl⟩
theorem pj_R_sub31 {C : Nat → pj_F} {n0 : Nat} {xs : Nat → Int32} {t : pj_T} {r : Option Value × pj_G × Nat × Nat} (h : pj_R C n0 xs pj_law31 t r) : pj_R C n0 xs pj_law t r := by
  obtain ⟨f, n, h⟩ := h
  exact ⟨f, n, pj_run_sub pj_law31_nr.1 pj_law31_nr.2 (fun pc q hq => of_decide_eq_true (List.all_eq_true.mp pj_law31_ok (pc, q) (pj_find_s hq))) n t r h⟩
set_option maxRecDepth 100000 in
set_option maxHeartbeats 8000000 in
theorem pj_lw31 {xs : Nat → Int32} (G G1 G2 : pj_G) (mc ms out am ax : Nat) (fx fm : List Value) (v : Int32) (hx : pj_get G ax = some (.inr (11, fx))) (hm1 : pj_get G1 am = some (.inr (12, fm))) (e1 : pj_E pj_lc 148 [.ref ax, .int (xs 1), .int (xs 2), .int (xs 3)] G (some (.int v), G1, 0, 0)) (e2 : pj_E pj_lc 264 [.ref am, .int (xs 1), .int (xs 2), .int (xs 3)] G1 (some (.int v), G2, 0, 0)) : pj_R pj_lc 6 xs pj_law (G, 39, [(4, .int 0), (3, .ref out), (2, .ref am), (1, .ref ax), (0, .ref 0)], [.int 31], mc, ms) (some (.int 1), G2, mc, ms) := by
  refine pj_R_sub31 ?_
  refine pj_R_to (G, 1211, [(4, .int 0), (3, .ref out), (2, .ref am), (1, .ref ax), (0, .ref 0)], [.int (xs 3), .int (xs 2), .int (xs 1), .ref ax], mc, ms) 1211 18 (fun _ => rfl) ?_
  refine pj_R_ca pj_lc_mon (vs := [.ref ax, .int (xs 1), .int (xs 2), .int (xs 3)]) (S2 := [.int v]) rfl (fun _ => rfl) ⟨Nat.le_of_ble_eq_true rfl, Nat.le_of_ble_eq_true rfl, pj_rcvI hx⟩ ⟨rfl, rfl, rfl⟩ e1 ?_
  show pj_R _ _ _ _ (G1, 1214, [(4, .int 0), (3, .ref out), (2, .ref am), (1, .ref ax), (0, .ref 0)], [.int v], mc, ms) _
  refine pj_R_to (G1, 1233, [(4, .int 0), (3, .ref out), (2, .ref am), (1, .ref ax), (0, .ref 0)], [.int (xs 3), .int (xs 2), .int (xs 1), .ref am, .int v], mc, ms) 1233 17 (fun _ => rfl) ?_
  refine pj_R_ca pj_lc_mon (vs := [.ref am, .int (xs 1), .int (xs 2), .int (xs 3)]) (S2 := [.int v, .int v]) rfl (fun _ => rfl) ⟨Nat.le_of_ble_eq_true rfl, Nat.le_of_ble_eq_true rfl, pj_rcvI hm1⟩ ⟨rfl, rfl, rfl⟩ e2 ?_
  show pj_R _ _ _ _ (G2, 1236, [(4, .int 0), (3, .ref out), (2, .ref am), (1, .ref ax), (0, .ref 0)], [.int v, .int v], mc, ms) _
  refine pj_R_icT 1595 rfl rfl (decide_eq_true rfl) ?_
  refine pj_R_to (G2, 29, [(4, .int (0 + Int32.ofInt 5)), (3, .ref out), (2, .ref am), (1, .ref ax), (0, .ref 0)], [.int ((Int32.ofNat 5) - (Int32.ofInt 5)), .int (0 + Int32.ofInt 5)], mc, ms) 29 8 (fun _ => rfl) ?_
  refine pj_R_icT 1601 rfl rfl (by decide) ?_
  refine pj_R_to (G2, 1602, [(4, .int (0 + Int32.ofInt 5)), (3, .ref out), (2, .ref am), (1, .ref ax), (0, .ref 0)], [.int (Int32.ofInt 1)], mc, ms) 1602 2 (fun _ => rfl) ?_
  exact pj_R_rt rfl rfl
noncomputable def pj_t0f : Bool := match pj_t0.2.2.1 with
  | [(4, .int _), (3, .ref _), (2, .ref am), (1, .ref ax), (0, .ref _)] => (match pj_get pj_t0.1 ax with
  | some (.inr (c1, fx)) => (match (fx[5]? : Option Value) with
  | some (.ref fd) => (match pj_get pj_t0.1 fd with
  | some (.inr (c2, ff)) => (match (ff[1]? : Option Value) with
  | some (.ref qa) => (match (ff[2]? : Option Value) with
  | some (.ref an) => (match (ff[3]? : Option Value) with
  | some (.int b3) => (match pj_get pj_t0.1 qa with
  | some (.inl (k1, n1, .inl _)) => (match pj_get pj_t0.1 an with
  | some (.inl (k2, n2, .inl _)) => (match pj_get pj_t0.1 am with
  | some (.inr (c3, fz)) => (match (fz[48]? : Option Value) with
  | some (.int b48) => (match (fz[49]? : Option Value) with
  | some (.ref q1) => (match (fz[50]? : Option Value) with
  | some (.ref q2) => (match (fz[51]? : Option Value) with
  | some (.ref q3) => (match pj_get pj_t0.1 q1 with
  | some (.inl (k4, n4, .inl _)) => (match pj_get pj_t0.1 q2 with
  | some (.inl (k5, n5, .inl _)) => (match pj_get pj_t0.1 q3 with
  | some (.inl (k6, n6, .inl _)) => decide (c1 = 11 ∧ c2 = 2 ∧ b3 = 0 ∧ k1 = 0 ∧ n1 = 12 ∧ k2 = 2 ∧ n2 = 12 ∧ c3 = 12 ∧ b48 = 0 ∧ k4 = 0 ∧ n4 = 12 ∧ k5 = 0 ∧ n5 = 12 ∧ k6 = 0 ∧ n6 = 12 ∧ ff.length = 4 ∧ fz.length = 60 ∧ q1 ≠ qa ∧ q2 ≠ qa ∧ q3 ≠ qa)
  | _ => false)
  | _ => false)
  | _ => false)
  | _ => false)
  | _ => false)
  | _ => false)
  | _ => false)
  | _ => false)
  | _ => false)
  | _ => false)
  | _ => false)
  | _ => false)
  | _ => false)
  | _ => false)
  | _ => false)
  | _ => false)
  | _ => false
set_option maxRecDepth 100000 in
theorem pj_t0f_t : pj_t0f = true := by decide +kernel
theorem pj_gv31 {xs : Nat → Int32} (h0 : xs 0 &&& 63 = 31) (gq : Int32) (hw : 0 ≤ (xs 1).toInt ∧ (xs 1).toInt ≤ 3) (hv : 0 ≤ (xs 2).toInt ∧ (xs 2).toInt ≤ gq.toInt) (hi : 0 ≤ (xs 3).toInt ∧ (xs 3).toInt ≤ 1) (hgq : ∀ G, pj_E (pj_cx 1) 263 [.int (xs 1)] G (some (.int gq), G, 0, 0)) (hq : ∀ G, pj_E (pj_cx 1) 16 [.int (xs 1), .int (xs 2)] G (some (.int (Int32.ofInt 1)), G, 0, 0)) : pj_goal xs := by
  have h := pj_t0f_t
  obtain ⟨va_, vb_, vc_, e⟩ := pj_t0_shape
  have e2 : pj_t0.2.2.1 = [(4, .int 0), (3, va_), (2, vb_), (1, vc_), (0, .ref 0)] := congrArg (fun t : pj_T => t.2.2.1) e
  clear e
  unfold pj_t0f at h
  rw [e2] at h
  split at h
  rotate_left
  · cases h
  rename_i q1_ out am ax q2_ heq
  cases heq
  split at h
  rotate_left
  · cases h
  rename_i c1 fx hx
  split at h
  rotate_left
  · cases h
  rename_i fd x5
  split at h
  rotate_left
  · cases h
  rename_i c2 ff hf
  split at h
  rotate_left
  · cases h
  rename_i qa f1
  split at h
  rotate_left
  · cases h
  rename_i an f2
  split at h
  rotate_left
  · cases h
  rename_i b3 f3
  split at h
  rotate_left
  · cases h
  rename_i k1 n1 u1 hqa
  split at h
  rotate_left
  · cases h
  rename_i k2 n2 u2 han
  split at h
  rotate_left
  · cases h
  rename_i c3 fz hz
  split at h
  rotate_left
  · cases h
  rename_i b48 z48
  split at h
  rotate_left
  · cases h
  rename_i q1 z49
  split at h
  rotate_left
  · cases h
  rename_i q2 z50
  split at h
  rotate_left
  · cases h
  rename_i q3 z51
  split at h
  rotate_left
  · cases h
  rename_i k4 n4 u4 hq1
  split at h
  rotate_left
  · cases h
  rename_i k5 n5 u5 hq2
  split at h
  rotate_left
  · cases h
  rename_i k6 n6 u6 hq3
  obtain ⟨rfl, rfl, rfl, rfl, rfl, rfl, rfl, rfl, rfl, rfl, rfl, rfl, rfl, rfl, rfl, l1, l2, m1, m2, m3⟩ := of_decide_eq_true h
  obtain ⟨G1, w1, w2⟩ := pj_foundX pj_t0.1 ax fd qa an fx ff u1 u2 (xs 1) (xs 2) (xs 3) (hq _) hi hx x5 hf l1 f1 f2 f3 hqa han
  have mem : ∀ b, b ≠ fd → b ≠ qa → b ≠ an → b ∉ [fd, qa, an] := fun b q1 q2 q3 hb => by
    simp only [List.mem_cons, List.not_mem_nil, or_false] at hb
    rcases hb with q | q | q
    · exact q1 q
    · exact q2 q
    · exact q3 q
  have y0 : pj_get G1 am = some (.inr (12, fz)) := by rw [w2 am (mem am (pj_dif hz hf (fun h => by cases h)) (pj_dif hz hqa (fun h => by cases h)) (pj_dif hz han (fun h => by cases h))), hz]
  have y1 : pj_get G1 q1 = some (.inl (0, 12, .inl u4)) := by rw [w2 q1 (mem q1 (pj_dif hq1 hf (fun h => by cases h)) m1 (pj_dif hq1 han (fun h => by cases h))), hq1]
  have y2 : pj_get G1 q2 = some (.inl (0, 12, .inl u5)) := by rw [w2 q2 (mem q2 (pj_dif hq2 hf (fun h => by cases h)) m2 (pj_dif hq2 han (fun h => by cases h))), hq2]
  have y3 : pj_get G1 q3 = some (.inl (0, 12, .inl u6)) := by rw [w2 q3 (mem q3 (pj_dif hq3 hf (fun h => by cases h)) m3 (pj_dif hq3 han (fun h => by cases h))), hq3]
  obtain ⟨G2, w3⟩ := pj_foundM G1 am q1 q2 q3 fz (xs 1) (xs 2) (xs 3) gq hw hv hi hgq y0 l2 z48 z49 z50 z51 ⟨u4, y1⟩ ⟨u5, y2⟩ ⟨u6, y3⟩
  obtain ⟨ff_, k, hk⟩ := pj_lw31 (xs := xs) pj_t0.1 G1 G2 pj_t0.2.2.2.2.1 pj_t0.2.2.2.2.2 out am ax fx fz _ hx y0 (pj_E_lc (by decide) (by decide) w1) (pj_E_lc (by decide) (by decide) w3)
  rw [← e2] at hk
  exact pj_join h0 hk (Nat.le_trans pj_t0_small.1 (by decide)) (Nat.le_trans pj_t0_small.2 (by decide))
