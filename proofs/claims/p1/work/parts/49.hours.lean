/-! HOURS of the reference -/
theorem pj_bnd {k : Int32} {n : Nat} (h0 : 0 ≤ k.toInt) (h1 : k.toInt < n) : ¬ (k < 0 ∨ n ≤ k.toNatClampNeg) := by
  rw [Int32.lt_iff_toInt_lt, pj_lz0]
  show ¬ (k.toInt < 0 ∨ n ≤ k.toInt.toNat)
  omega
theorem pj_l32 : ((Int8.ofInt 32).toInt32).toInt = 32 := by decide
theorem pj_e32 (k : Int32) : ((Int8.ofInt 32).toInt32 * 0) + k = k := by rw [Int32.mul_zero, Int32.zero_add]
theorem pj_pb_loop (a na ua : Nat) (fs : List Value) (f : Nat → Int32) (h14 : fs[14]? = some (.ref na)) (h30 : fs[30]? = some (.int 0)) (h31 : fs[31]? = some (.ref ua)) : ∀ (d : Nat) (k : Int32) (G : pj_G), 32 - k.toInt = (d : Nat) → 0 ≤ k.toInt → pj_get G a = some (.inr (12, fs)) → pj_get G na = some (.inl (0, 32, .inl f)) → (∃ g, pj_get G ua = some (.inl (0, 512, .inl g))) → ∃ G' : pj_G, pj_R (pj_cx 0) 0 pj_x0 pj_m215 (G, 2, [(1, .int k), (0, .ref a)], [], 0, 0) (none, G', 0, 0) ∧ (∃ g, pj_get G' ua = some (.inl (0, 512, .inl g))) ∧ pj_same G G' [ua]
  | 0, k, G, hd, hk, hm, hn, hu => by
    refine ⟨G, ?_, hu, fun b hb => rfl⟩
    refine pj_R_to (G, 5, [(1, .int k), (0, .ref a)], [.int ((Int8.ofInt 32).toInt32), .int k], 0, 0) 5 3 (fun _ => rfl) ?_
    refine pj_R_icT 34 rfl rfl (by simp only [pj_c1, decide_eq_true_eq, Int32.le_iff_toInt_le, pj_l32]; omega) ?_
    exact pj_R_rt rfl rfl
  | d + 1, k, G, hd, hk, hm, hn, hu => by
    obtain ⟨g, hu⟩ := hu
    have d1 : a ≠ ua := pj_dif hm hu (fun h => by cases h)
    have d2 : na ≠ ua := pj_dif hn hu (fun h => by cases h)
    have i1 : (k + Int32.ofInt 1).toInt = k.toInt + 1 := pj_inc (n := (Int8.ofInt 32).toInt32) (by rw [pj_l32]; omega)
    obtain ⟨G', k1, k2, k3⟩ := pj_pb_loop a na ua fs f h14 h30 h31 d (k + Int32.ofInt 1) (pj_put G ua (.inl (0, 512, .inl (upd g (((Int8.ofInt 32).toInt32 * 0) + k).toNatClampNeg (f k.toNatClampNeg))))) (by omega) (by omega) (by rw [pj_gn hu d1, hm]) (by rw [pj_gn hu d2, hn]) ⟨_, pj_gp hu⟩
    refine ⟨G', ?_, k2, pj_same_t (pj_s1 hu) k3⟩
    refine pj_R_to (G, 5, [(1, .int k), (0, .ref a)], [.int ((Int8.ofInt 32).toInt32), .int k], 0, 0) 5 3 (fun _ => rfl) ?_
    refine pj_R_icF rfl (by simp only [pj_c1, decide_eq_false_iff_not, Int32.le_iff_toInt_le, pj_l32]; omega) ?_
    refine pj_R_to (G, 9, [(1, .int k), (0, .ref a)], [.ref a], 0, 0) 9 2 (fun _ => rfl) ?_
    refine pj_R_gf rfl hm h31 ?_
    refine pj_R_to (G, 15, [(1, .int k), (0, .ref a)], [.ref a, .int ((Int8.ofInt 32).toInt32), .ref ua], 0, 0) 15 3 (fun _ => rfl) ?_
    refine pj_R_gf rfl hm h30 ?_
    refine pj_R_to (G, 22, [(1, .int k), (0, .ref a)], [.ref a, .int ((((Int8.ofInt 32).toInt32) * 0) + k), .ref ua], 0, 0) 22 5 (fun _ => rfl) ?_
    refine pj_R_gf rfl hm h14 ?_
    refine pj_R_to (G, 26, [(1, .int k), (0, .ref a)], [.int k, .ref na, .int ((((Int8.ofInt 32).toInt32) * 0) + k), .ref ua], 0, 0) 26 2 (fun _ => rfl) ?_
    refine pj_R_il rfl hn (pj_bnd hk (by omega)) ?_
    refine pj_R_is rfl hu (by rw [pj_e32]; exact pj_bnd hk (by omega)) ?_
    show pj_R _ _ _ _ (pj_put G ua (.inl (0, 512, .inl (upd g (((Int8.ofInt 32).toInt32 * 0) + k).toNatClampNeg (f k.toNatClampNeg)))), 28, [(1, .int k), (0, .ref a)], [], 0, 0) _
    refine pj_R_to (pj_put G ua (.inl (0, 512, .inl (upd g (((Int8.ofInt 32).toInt32 * 0) + k).toNatClampNeg (f k.toNatClampNeg)))), 2, [(1, .int (k + Int32.ofInt 1)), (0, .ref a)], [], 0, 0) 2 3 (fun _ => rfl) ?_
    exact k1
theorem pj_putsE (G : pj_G) (a na ua : Nat) (fs : List Value) (f : Nat → Int32) (h14 : fs[14]? = some (.ref na)) (h30 : fs[30]? = some (.int 0)) (h31 : fs[31]? = some (.ref ua)) (hm : pj_get G a = some (.inr (12, fs))) (hn : pj_get G na = some (.inl (0, 32, .inl f))) (hu : ∃ g, pj_get G ua = some (.inl (0, 512, .inl g))) : ∃ G' : pj_G, pj_E (pj_cx 1) 215 [.ref a] G (none, G', 0, 0) ∧ (∃ g, pj_get G' ua = some (.inl (0, 512, .inl g))) ∧ pj_same G G' [ua] := by
  obtain ⟨G', k1, k2, k3⟩ := pj_pb_loop a na ua fs f h14 h30 h31 32 (Int32.ofInt 0) G (by decide) (by decide) hm hn hu
  refine ⟨G', ?_, k2, k3⟩
  refine pj_E_R (M := pj_m215) rfl rfl (Nat.le_of_ble_eq_true rfl) ?_
  show pj_R _ _ _ _ (G, 0, [(0, .ref a)], [], 0, 0) _
  refine pj_R_to (G, 2, [(1, .int (Int32.ofInt 0)), (0, .ref a)], [], 0, 0) 2 3 (fun _ => rfl) ?_
  exact k1
theorem pj_startsE (G : pj_G) (a : Nat) (fs : List Value) (hl : fs.length = 60) (hm : pj_get G a = some (.inr (12, fs))) : ∃ G' : pj_G, pj_E (pj_cx 1) 224 [.ref a] G (none, G', 0, 0) ∧ pj_get G' a = some (.inr (12, ((fs.set 33 (.int (Int32.ofInt 0))).set 34 (.int (Int32.ofInt 0))).set 35 (.int (Int32.ofInt 0)))) ∧ pj_same G G' [a] := by
  have hc := hm
  have es : G = pj_ob G a fs := by
    cases a with
    | zero => cases hm
    | succ i =>
      have h1 : G.1[i]? = some (.inr (12, fs)) := hm
      unfold pj_ob pj_put
      show G = (G.1.set i (.inr (12, fs)), G.2)
      obtain ⟨h2, h3⟩ := List.getElem?_eq_some_iff.mp h1
      rw [← h3, List.set_getElem_self]
  refine ⟨pj_ob G a (((fs.set 33 (.int (Int32.ofInt 0))).set 34 (.int (Int32.ofInt 0))).set 35 (.int (Int32.ofInt 0))), ?_, pj_gp hm, pj_s1 hm⟩
  refine pj_E_R (M := pj_m224) rfl rfl (Nat.le_of_ble_eq_true rfl) ?_
  show pj_R _ _ _ _ (G, 0, [(0, .ref a)], [], 0, 0) _
  suffices h : pj_R (pj_cx 0) 0 pj_x0 pj_m224 (pj_ob G a fs, 0, [(0, .ref a)], [], 0, 0) (none, pj_ob G a (((fs.set 33 (.int (Int32.ofInt 0))).set 34 (.int (Int32.ofInt 0))).set 35 (.int (Int32.ofInt 0))), 0, 0) by
    rw [← es] at h
    exact h
  refine pj_R_to (pj_ob G a fs, 2, [(0, .ref a)], [.int (Int32.ofInt 0), .ref a], 0, 0) 2 3 (fun _ => rfl) ?_
  refine pj_R_po hc rfl rfl (by show 33 < _; simp only [List.length_set, hl]; decide) rfl ?_
  show pj_R _ _ _ _ (pj_ob G a (fs.set 33 (.int (Int32.ofInt 0))), 5, [(0, .ref a)], [], 0, 0) _
  refine pj_R_to (pj_ob G a (fs.set 33 (.int (Int32.ofInt 0))), 7, [(0, .ref a)], [.int (Int32.ofInt 0), .ref a], 0, 0) 7 3 (fun _ => rfl) ?_
  refine pj_R_po hc rfl rfl (by show 34 < _; simp only [List.length_set, hl]; decide) rfl ?_
  show pj_R _ _ _ _ (pj_ob G a ((fs.set 33 (.int (Int32.ofInt 0))).set 34 (.int (Int32.ofInt 0))), 10, [(0, .ref a)], [], 0, 0) _
  refine pj_R_to (pj_ob G a ((fs.set 33 (.int (Int32.ofInt 0))).set 34 (.int (Int32.ofInt 0))), 12, [(0, .ref a)], [.int (Int32.ofInt 0), .ref a], 0, 0) 12 3 (fun _ => rfl) ?_
  refine pj_R_po hc rfl rfl (by show 35 < _; simp only [List.length_set, hl]; decide) rfl ?_
  show pj_R _ _ _ _ (pj_ob G a (((fs.set 33 (.int (Int32.ofInt 0))).set 34 (.int (Int32.ofInt 0))).set 35 (.int (Int32.ofInt 0))), 15, [(0, .ref a)], [], 0, 0) _
  exact pj_R_rt rfl rfl
theorem pj_goesE (G : pj_G) (a na : Nat) (fs : List Value) (f : Nat → Int32) (hm : pj_get G a = some (.inr (12, fs))) (h5 : fs[5]? = some (.int 0)) (h14 : fs[14]? = some (.ref na)) (hn : pj_get G na = some (.inl (0, 32, .inl f))) : ∃ (G' : pj_G) (f' : Nat → Int32), pj_E (pj_cx 1) 225 [.ref a] G (none, G', 0, 0) ∧ pj_get G' na = some (.inl (0, 32, .inl f')) ∧ f' ((Int8.ofInt 30).toInt32).toNatClampNeg = f ((Int8.ofInt 30).toInt32).toNatClampNeg + Int32.ofInt 1 ∧ pj_same G G' [na] := by
  have d1 : a ≠ na := pj_dif hm hn (fun h => by cases h)
  have hm1 : pj_get (pj_put G na (.inl (0, 32, .inl (upd f ((Int8.ofInt 30).toInt32).toNatClampNeg (f ((Int8.ofInt 30).toInt32).toNatClampNeg + Int32.ofInt 1))))) a = some (.inr (12, fs)) := by rw [pj_gn hn d1, hm]
  refine ⟨pj_put G na (.inl (0, 32, .inl (upd f ((Int8.ofInt 30).toInt32).toNatClampNeg (f ((Int8.ofInt 30).toInt32).toNatClampNeg + Int32.ofInt 1)))), _, ?_, pj_gp hn, by unfold upd; exact if_pos rfl, pj_s1 hn⟩
  refine pj_E_R (M := pj_m225) rfl rfl (Nat.le_of_ble_eq_true rfl) ?_
  show pj_R _ _ _ _ (G, 0, [(0, .ref a)], [], 0, 0) _
  refine pj_R_to (G, 1, [(0, .ref a)], [.ref a], 0, 0) 1 2 (fun _ => rfl) ?_
  refine pj_R_gf rfl hm h14 ?_
  refine pj_R_to (G, 7, [(0, .ref a)], [.int ((Int8.ofInt 30).toInt32), .ref na, .int ((Int8.ofInt 30).toInt32), .ref na], 0, 0) 7 3 (fun _ => rfl) ?_
  refine pj_R_il rfl hn (by decide) ?_
  refine pj_R_to (G, 10, [(0, .ref a)], [.int ((f ((Int8.ofInt 30).toInt32).toNatClampNeg) + (Int32.ofInt 1)), .int ((Int8.ofInt 30).toInt32), .ref na], 0, 0) 10 3 (fun _ => rfl) ?_
  refine pj_R_is rfl hn (by decide) ?_
  show pj_R _ _ _ _ (pj_put G na (.inl (0, 32, .inl (upd f ((Int8.ofInt 30).toInt32).toNatClampNeg (f ((Int8.ofInt 30).toInt32).toNatClampNeg + Int32.ofInt 1)))), 11, [(0, .ref a)], [], 0, 0) _
  refine pj_R_to (pj_put G na (.inl (0, 32, .inl (upd f ((Int8.ofInt 30).toInt32).toNatClampNeg (f ((Int8.ofInt 30).toInt32).toNatClampNeg + Int32.ofInt 1)))), 15, [(1, .int (Int32.ofInt 0)), (0, .ref a)], [.ref a, .int (Int32.ofInt 0)], 0, 0) 15 5 (fun _ => rfl) ?_
  refine pj_R_gf rfl hm1 h5 ?_
  refine pj_R_icT 199 rfl rfl (by decide) ?_
  exact pj_R_rt rfl rfl
theorem pj_entersS (G : pj_G) (a rw_ : Nat) (fs : List Value) (f : Nat → Int64) (s : Int32) (v : Int64) (hl : fs.length = 60) (hm : pj_get G a = some (.inr (12, fs))) (h2 : fs[2]? = some (.ref rw_)) (h1 : fs[1]? = some (.int s)) (hr : pj_get G rw_ = some (.inl (1, 24, .inr (.inl f)))) (hs : ¬ (s < 0 ∨ 24 ≤ s.toNatClampNeg)) : ∃ (G' : pj_G) (f' : Nat → Int64), pj_E (pj_cx 1) 175 [.ref a, .long v] G (none, G', 0, 0) ∧ pj_get G' a = some (.inr (12, fs.set 1 (.int (s + Int32.ofInt 1)))) ∧ pj_get G' rw_ = some (.inl (1, 24, .inr (.inl f'))) ∧ pj_same G G' [a, rw_] := by
  have d1 : a ≠ rw_ := pj_dif hm hr (fun h => by cases h)
  have k1 : pj_get (pj_put G rw_ (.inl (1, 24, .inr (.inl (vp_updL f s.toNatClampNeg v))))) a = some (.inr (12, fs)) := by rw [pj_gn hr d1, hm]
  refine ⟨pj_put (pj_put G rw_ (.inl (1, 24, .inr (.inl (vp_updL f s.toNatClampNeg v))))) a (.inr (12, fs.set 1 (.int (s + Int32.ofInt 1)))), vp_updL f s.toNatClampNeg v, ?_, pj_gp k1, by rw [pj_gn k1 (Ne.symm d1), pj_gp hr], fun b hb => ?_⟩
  rotate_left
  · have q1 : b ≠ a := fun e => hb (by rw [e]; exact List.mem_cons_self)
    have q2 : b ≠ rw_ := fun e => hb (by rw [e]; exact List.mem_cons_of_mem _ List.mem_cons_self)
    rw [pj_gn k1 q1, pj_gn hr q2]
  refine pj_E_R (M := pj_m175) rfl rfl (Nat.le_of_ble_eq_true rfl) ?_
  show pj_R _ _ _ _ (G, 0, [(0, .ref a), (1, .long v)], [], 0, 0) _
  refine pj_R_to (G, 1, [(0, .ref a), (1, .long v)], [.ref a], 0, 0) 1 2 (fun _ => rfl) ?_
  refine pj_R_gf rfl hm h2 ?_
  refine pj_R_to (G, 5, [(0, .ref a), (1, .long v)], [.ref a, .ref rw_], 0, 0) 5 2 (fun _ => rfl) ?_
  refine pj_R_gf rfl hm h1 ?_
  refine pj_R_to (G, 9, [(0, .ref a), (1, .long v)], [.long v, .int s, .ref rw_], 0, 0) 9 2 (fun _ => rfl) ?_
  refine pj_R_la rfl hr hs ?_
  refine pj_R_to (pj_put G rw_ (.inl (1, 24, .inr (.inl (vp_updL f s.toNatClampNeg v)))), 12, [(0, .ref a), (1, .long v)], [.ref a, .ref a], 0, 0) 12 3 (fun _ => rfl) ?_
  refine pj_R_gf rfl k1 h1 ?_
  refine pj_R_to (pj_put G rw_ (.inl (1, 24, .inr (.inl (vp_updL f s.toNatClampNeg v)))), 17, [(0, .ref a), (1, .long v)], [.int (s + (Int32.ofInt 1)), .ref a], 0, 0) 17 3 (fun _ => rfl) ?_
  refine pj_R_pf rfl k1 (by show 1 < fs.length; rw [hl]; decide) rfl ?_
  show pj_R _ _ _ _ (pj_put (pj_put G rw_ (.inl (1, 24, .inr (.inl (vp_updL f s.toNatClampNeg v))))) a (.inr (12, fs.set 1 (.int (s + Int32.ofInt 1)))), 20, [(0, .ref a), (1, .long v)], [], 0, 0) _
  exact pj_R_rt rfl rfl
theorem pj_addsE (G : pj_G) (a : Nat) (fs : List Value) (v : Int32) (hl : fs.length = 60) (hm : pj_get G a = some (.inr (12, fs))) (h30 : fs[30]? = some (.int 0)) : ∃ G' : pj_G, pj_E (pj_cx 1) 216 [.ref a, .int v] G (some (.int v), G', 0, 0) := by
  have k1 : pj_get (pj_put G a (.inr (12, fs.set 30 (.int (0 + Int32.ofInt 1))))) a = some (.inr (12, fs.set 30 (.int (0 + Int32.ofInt 1)))) := pj_gp hm
  have k2 : (fs.set 30 (.int (0 + Int32.ofInt 1)))[30]? = some (.int (0 + Int32.ofInt 1)) := by rw [List.getElem?_set_self (by rw [hl]; decide)]
  refine ⟨pj_put G a (.inr (12, fs.set 30 (.int (0 + Int32.ofInt 1)))), ?_⟩
  refine pj_E_R (M := pj_m216) rfl rfl (Nat.le_of_ble_eq_true rfl) ?_
  show pj_R _ _ _ _ (G, 0, [(0, .ref a), (1, .int v)], [], 0, 0) _
  refine pj_R_to (G, 2, [(0, .ref a), (1, .int v)], [.ref a, .ref a], 0, 0) 2 3 (fun _ => rfl) ?_
  refine pj_R_gf rfl hm h30 ?_
  refine pj_R_to (G, 7, [(0, .ref a), (1, .int v)], [.int (0 + (Int32.ofInt 1)), .ref a], 0, 0) 7 3 (fun _ => rfl) ?_
  refine pj_R_pf rfl hm (by show 30 < fs.length; rw [hl]; decide) rfl ?_
  show pj_R _ _ _ _ (pj_put G a (.inr (12, fs.set 30 (.int (0 + Int32.ofInt 1)))), 10, [(0, .ref a), (1, .int v)], [], 0, 0) _
  refine pj_R_to (pj_put G a (.inr (12, fs.set 30 (.int (0 + Int32.ofInt 1)))), 11, [(0, .ref a), (1, .int v)], [.ref a], 0, 0) 11 2 (fun _ => rfl) ?_
  refine pj_R_gf rfl k1 k2 ?_
  refine pj_R_to (pj_put G a (.inr (12, fs.set 30 (.int (0 + Int32.ofInt 1)))), 16, [(0, .ref a), (1, .int v)], [.int ((Int8.ofInt 15).toInt32), .int (0 + Int32.ofInt 1)], 0, 0) 16 2 (fun _ => rfl) ?_
  refine pj_R_icT 59 rfl rfl (by decide) ?_
  refine pj_R_to (pj_put G a (.inr (12, fs.set 30 (.int (0 + Int32.ofInt 1)))), 60, [(0, .ref a), (1, .int v)], [.int v], 0, 0) 60 2 (fun _ => rfl) ?_
  exact pj_R_rt rfl rfl
theorem pj_hm_loop (a na : Nat) (fs : List Value) (n : Int32) (h5 : fs[5]? = some (.int 0)) (h14 : fs[14]? = some (.ref na)) : ∀ (d : Nat) (k : Int32) (G : pj_G) (f : Nat → Int32), n.toInt - k.toInt = (d : Nat) → pj_get G a = some (.inr (12, fs)) → pj_get G na = some (.inl (0, 32, .inl f)) → ∃ (G' : pj_G) (f' : Nat → Int32) (k' : Int32), pj_get G' na = some (.inl (0, 32, .inl f')) ∧ f' ((Int8.ofInt 30).toInt32).toNatClampNeg = pj_nwf d (f ((Int8.ofInt 30).toInt32).toNatClampNeg) ∧ pj_same G G' [na] ∧ ∀ r, pj_R (pj_cx 1) 0 pj_x0 pj_m229 (G', 44, [(2, .int k'), (0, .ref a), (1, .int n)], [], 0, 0) r → pj_R (pj_cx 1) 0 pj_x0 pj_m229 (G, 29, [(2, .int k), (0, .ref a), (1, .int n)], [], 0, 0) r
  | 0, k, G, f, hd, hm, hn => by
    refine ⟨G, f, k, hn, rfl, fun b hb => rfl, fun r h => ?_⟩
    refine pj_R_to (G, 31, [(2, .int k), (0, .ref a), (1, .int n)], [.int n, .int k], 0, 0) 31 3 (fun _ => rfl) ?_
    refine pj_R_icT 44 rfl rfl (by simp only [pj_c1, decide_eq_true_eq, Int32.le_iff_toInt_le]; omega) ?_
    exact h
  | d + 1, k, G, f, hd, hm, hn => by
    have d1 : a ≠ na := pj_dif hm hn (fun h => by cases h)
    obtain ⟨G1, f1, e1, m1, m2, m3⟩ := pj_goesE G a na fs f hm h5 h14 hn
    obtain ⟨G', f', k', q1, q2, q3, q4⟩ := pj_hm_loop a na fs n h5 h14 d (k + Int32.ofInt 1) G1 f1 (by rw [pj_inc (show k.toInt < n.toInt by omega)]; omega) (by rw [m3 a (pj_n1 d1), hm]) m1
    refine ⟨G', f', k', q1, ?_, pj_same_t m3 q3, fun r h => ?_⟩
    · rw [q2, m2]
      rfl
    · refine pj_R_to (G, 31, [(2, .int k), (0, .ref a), (1, .int n)], [.int n, .int k], 0, 0) 31 3 (fun _ => rfl) ?_
      refine pj_R_icF rfl (by simp only [pj_c1, decide_eq_false_iff_not, Int32.le_iff_toInt_le]; omega) ?_
      refine pj_R_to (G, 35, [(2, .int k), (0, .ref a), (1, .int n)], [.ref a], 0, 0) 35 2 (fun _ => rfl) ?_
      refine pj_R_ca (pj_cx_mon _) (vs := [.ref a]) (S2 := []) rfl (fun _ => rfl) ⟨Nat.le_of_ble_eq_true rfl, Nat.le_of_ble_eq_true rfl, pj_rcvI hm⟩ ⟨rfl, rfl, rfl⟩ e1 ?_
      show pj_R _ _ _ _ (G1, 38, [(2, .int k), (0, .ref a), (1, .int n)], [], 0, 0) _
      refine pj_R_to (G1, 29, [(2, .int (k + Int32.ofInt 1)), (0, .ref a), (1, .int n)], [], 0, 0) 29 3 (fun _ => rfl) ?_
      exact q4 r h
theorem pj_hoursM (G : pj_G) (a rw_ na ua : Nat) (fs : List Value) (f : Nat → Int32) (g : Nat → Int64) (n : Int32) (hn : 0 ≤ n.toInt ∧ n.toInt ≤ 99) (hm : pj_get G a = some (.inr (12, fs))) (hl : fs.length = 60) (h2 : fs[2]? = some (.ref rw_)) (h5 : fs[5]? = some (.int 0)) (h14 : fs[14]? = some (.ref na)) (h30 : fs[30]? = some (.int 0)) (h31 : fs[31]? = some (.ref ua)) (hr : pj_get G rw_ = some (.inl (1, 24, .inr (.inl g)))) (ha : pj_get G na = some (.inl (0, 32, .inl f))) (hu : ∃ u, pj_get G ua = some (.inl (0, 512, .inl u))) : ∃ G' : pj_G, pj_E (pj_cx 2) 229 [.ref a, .int n] G (some (.int (pj_nwf n.toInt.toNat (f ((Int8.ofInt 30).toInt32).toNatClampNeg))), G', 0, 0) := by
  have hc := hm
  have z0 : (Int64.ofNat 0).toInt = 0 := by decide
  have z99 : (Int64.ofInt 99).toInt = 99 := by decide
  obtain ⟨u0, hu0⟩ := hu
  have d1 : na ≠ a := pj_dif ha hm (fun h => by cases h)
  have d2 : ua ≠ a := pj_dif hu0 hm (fun h => by cases h)
  have d3 : rw_ ≠ a := pj_dif hr hm (fun h => by cases h)
  have d4 : a ≠ ua := Ne.symm d2
  have d5 : na ≠ ua := pj_dif ha hu0 (fun h => by cases h)
  have d6 : rw_ ≠ ua := pj_dif hr hu0 (fun h => by cases h)
  have d7 : rw_ ≠ na := pj_dif hr ha (fun h => by cases h)
  obtain ⟨fa, hfa⟩ : ∃ fa, fa = fs.set 0 (.int (Int32.ofInt 0)) := ⟨_, rfl⟩
  have la : fa.length = 60 := by rw [hfa, List.length_set, hl]
  have A2 : fa[2]? = some (.ref rw_) := by rw [hfa, List.getElem?_set_ne (by decide), h2]
  have A5 : fa[5]? = some (.int 0) := by rw [hfa, List.getElem?_set_ne (by decide), h5]
  have A14 : fa[14]? = some (.ref na) := by rw [hfa, List.getElem?_set_ne (by decide), h14]
  have A30 : fa[30]? = some (.int 0) := by rw [hfa, List.getElem?_set_ne (by decide), h30]
  have A31 : fa[31]? = some (.ref ua) := by rw [hfa, List.getElem?_set_ne (by decide), h31]
  have Ga : pj_get (pj_ob G a fa) a = some (.inr (12, fa)) := pj_gp hm
  have s0 : pj_same G (pj_ob G a fa) [a] := pj_s1 hm
  obtain ⟨G1, e1, ⟨u1, hu1⟩, s1⟩ := pj_putsE (pj_ob G a fa) a na ua fa f A14 A30 A31 Ga (by rw [s0 na (pj_n1 d1), ha]) ⟨u0, by rw [s0 ua (pj_n1 d2), hu0]⟩
  have Gb : pj_get G1 a = some (.inr (12, fa)) := by rw [s1 a (pj_n1 d4), Ga]
  obtain ⟨G2, e2, hb, s2⟩ := pj_startsE G1 a fa la Gb
  obtain ⟨fb, hfb⟩ : ∃ fb, fb = ((fa.set 33 (.int (Int32.ofInt 0))).set 34 (.int (Int32.ofInt 0))).set 35 (.int (Int32.ofInt 0)) := ⟨_, rfl⟩
  rw [← hfb] at hb
  have lb : fb.length = 60 := by rw [hfb, List.length_set, List.length_set, List.length_set, la]
  have B2 : fb[2]? = some (.ref rw_) := by rw [hfb, List.getElem?_set_ne (by decide), List.getElem?_set_ne (by decide), List.getElem?_set_ne (by decide), A2]
  have B5 : fb[5]? = some (.int 0) := by rw [hfb, List.getElem?_set_ne (by decide), List.getElem?_set_ne (by decide), List.getElem?_set_ne (by decide), A5]
  have B14 : fb[14]? = some (.ref na) := by rw [hfb, List.getElem?_set_ne (by decide), List.getElem?_set_ne (by decide), List.getElem?_set_ne (by decide), A14]
  have B30 : fb[30]? = some (.int 0) := by rw [hfb, List.getElem?_set_ne (by decide), List.getElem?_set_ne (by decide), List.getElem?_set_ne (by decide), A30]
  have B33 : fb[33]? = some (.int (Int32.ofInt 0)) := by rw [hfb, List.getElem?_set_ne (by decide), List.getElem?_set_ne (by decide), List.getElem?_set_self (by rw [la]; decide)]
  have B34 : fb[34]? = some (.int (Int32.ofInt 0)) := by rw [hfb, List.getElem?_set_ne (by decide), List.getElem?_set_self (by rw [List.length_set, la]; decide)]
  have n2 : pj_get G2 na = some (.inl (0, 32, .inl f)) := by rw [s2 na (pj_n1 d1), s1 na (pj_n1 d5), s0 na (pj_n1 d1), ha]
  obtain ⟨G3, f3, k3, q1, q2, q3, q4⟩ := pj_hm_loop a na fb n B5 B14 n.toInt.toNat (Int32.ofInt 0) G2 f (by rw [pj_li0]; omega) hb n2
  have a3 : pj_get G3 a = some (.inr (12, fb)) := by rw [q3 a (pj_n1 (Ne.symm d1)), hb]
  have r3 : pj_get G3 rw_ = some (.inl (1, 24, .inr (.inl g))) := by rw [q3 rw_ (pj_n1 d7), s2 rw_ (pj_n1 d3), s1 rw_ (pj_n1 d6), s0 rw_ (pj_n1 d3), hr]
  obtain ⟨fc, hfc⟩ : ∃ fc, fc = fb.set 1 (.int (Int32.ofInt 0)) := ⟨_, rfl⟩
  have lc : fc.length = 60 := by rw [hfc, List.length_set, lb]
  have C1 : fc[1]? = some (.int (Int32.ofInt 0)) := by rw [hfc, List.getElem?_set_self (by rw [lb]; decide)]
  have C2 : fc[2]? = some (.ref rw_) := by rw [hfc, List.getElem?_set_ne (by decide), B2]
  have C14 : fc[14]? = some (.ref na) := by rw [hfc, List.getElem?_set_ne (by decide), B14]
  have C30 : fc[30]? = some (.int 0) := by rw [hfc, List.getElem?_set_ne (by decide), B30]
  have C33 : fc[33]? = some (.int (Int32.ofInt 0)) := by rw [hfc, List.getElem?_set_ne (by decide), B33]
  have C34 : fc[34]? = some (.int (Int32.ofInt 0)) := by rw [hfc, List.getElem?_set_ne (by decide), B34]
  have s4 : pj_same G3 (pj_put G3 a (.inr (12, fc))) [a] := pj_s1 a3
  have a4 : pj_get (pj_put G3 a (.inr (12, fc))) a = some (.inr (12, fc)) := pj_gp a3
  obtain ⟨G5, g5, e5, a5, r5, s5⟩ := pj_entersS (pj_put G3 a (.inr (12, fc))) a rw_ fc g (Int32.ofInt 0) (Int32.ofInt 0).toInt64 lc a4 C2 C1 (by rw [s4 rw_ (pj_n1 d3), r3]) (by decide)
  have l5 : (fc.set 1 (.int (Int32.ofInt 0 + Int32.ofInt 1))).length = 60 := by rw [List.length_set, lc]
  obtain ⟨G6, g6, e6, a6, r6, s6⟩ := pj_entersS G5 a rw_ _ g5 (Int32.ofInt 0 + Int32.ofInt 1) (Int32.ofInt 0).toInt64 l5 a5 (by rw [List.getElem?_set_ne (by decide), C2]) (by rw [List.getElem?_set_self (by rw [lc]; decide)]) r5 (by decide)
  rw [List.set_set] at a6
  have n6 : pj_get G6 na = some (.inl (0, 32, .inl f3)) := by rw [s6 na (pj_n2 d1 (Ne.symm d7)), s5 na (pj_n2 d1 (Ne.symm d7)), s4 na (pj_n1 d1), q1]
  obtain ⟨G7, e7⟩ := pj_addsE G6 a _ (f3 ((Int8.ofInt 30).toInt32).toNatClampNeg) (by rw [List.length_set, lc]) a6 (by rw [List.getElem?_set_ne (by decide), C30])
  refine ⟨G7, ?_⟩
  rw [← q2]
  refine pj_E_R (M := pj_m229) rfl rfl (Nat.le_of_ble_eq_true rfl) ?_
  show pj_R _ _ _ _ (G, 0, [(0, .ref a), (1, .int n)], [], 0, 0) _
  refine pj_R_to (G, 2, [(0, .ref a), (1, .int n)], [.int (Int32.ofInt 0), .ref a], 0, 0) 2 3 (fun _ => rfl) ?_
  refine pj_R_pf rfl hm (by show 0 < fs.length; rw [hl]; decide) rfl ?_
  show pj_R _ _ _ _ (pj_ob G a (fs.set 0 (.int (Int32.ofInt 0))), 5, [(0, .ref a), (1, .int n)], [], 0, 0) _
  rw [← hfa]
  refine pj_R_to (pj_ob G a fa, 11, [(0, .ref a), (1, .int n)], [.long (Int64.ofInt 99), .long (Int64.ofNat 0), .long n.toInt64], 0, 0) 11 5 (fun _ => rfl) ?_
  refine pj_R_ca (pj_cx_mon _) (vs := [.long n.toInt64, .long (Int64.ofNat 0), .long (Int64.ofInt 99)]) (S2 := [.int (Int32.ofInt 1)]) rfl (fun _ => rfl) ⟨Nat.le_of_ble_eq_true rfl, Nat.le_of_ble_eq_true rfl, rfl⟩ ⟨rfl, rfl, rfl⟩ (pj_inE _ _ _ _ (by rw [Int32.toInt_toInt64, z0]; omega) (by rw [Int32.toInt_toInt64, z99]; omega)) ?_
  show pj_R _ _ _ _ (pj_ob G a fa, 14, [(0, .ref a), (1, .int n)], [.int (Int32.ofInt 1)], 0, 0) _
  refine pj_R_ifT 19 rfl rfl (by decide) ?_
  refine pj_R_to (pj_ob G a fa, 20, [(0, .ref a), (1, .int n)], [.ref a], 0, 0) 20 2 (fun _ => rfl) ?_
  refine pj_R_ca (pj_cx_mon _) (vs := [.ref a]) (S2 := []) rfl (fun _ => rfl) ⟨Nat.le_of_ble_eq_true rfl, Nat.le_of_ble_eq_true rfl, pj_rcvI Ga⟩ ⟨rfl, rfl, rfl⟩ e1 ?_
  show pj_R _ _ _ _ (G1, 23, [(0, .ref a), (1, .int n)], [], 0, 0) _
  refine pj_R_to (G1, 24, [(0, .ref a), (1, .int n)], [.ref a], 0, 0) 24 2 (fun _ => rfl) ?_
  refine pj_R_ca (pj_cx_mon _) (vs := [.ref a]) (S2 := []) rfl (fun _ => rfl) ⟨Nat.le_of_ble_eq_true rfl, Nat.le_of_ble_eq_true rfl, pj_rcvI Gb⟩ ⟨rfl, rfl, rfl⟩ e2 ?_
  show pj_R _ _ _ _ (G2, 27, [(0, .ref a), (1, .int n)], [], 0, 0) _
  refine pj_R_to (G2, 29, [(2, .int (Int32.ofInt 0)), (0, .ref a), (1, .int n)], [], 0, 0) 29 3 (fun _ => rfl) ?_
  refine q4 _ ?_
  refine pj_R_to (G3, 46, [(2, .int k3), (0, .ref a), (1, .int n)], [.int (Int32.ofInt 0), .ref a], 0, 0) 46 3 (fun _ => rfl) ?_
  refine pj_R_pf rfl a3 (by show 1 < fb.length; rw [lb]; decide) rfl ?_
  show pj_R _ _ _ _ (pj_put G3 a (.inr (12, fb.set 1 (.int (Int32.ofInt 0)))), 49, [(2, .int k3), (0, .ref a), (1, .int n)], [], 0, 0) _
  rw [← hfc]
  refine pj_R_to (pj_put G3 a (.inr (12, fc)), 51, [(2, .int k3), (0, .ref a), (1, .int n)], [.ref a, .ref a], 0, 0) 51 3 (fun _ => rfl) ?_
  refine pj_R_gf rfl a4 C33 ?_
  refine pj_R_to (pj_put G3 a (.inr (12, fc)), 55, [(2, .int k3), (0, .ref a), (1, .int n)], [.long ((Int32.ofInt 0).toInt64), .ref a], 0, 0) 55 2 (fun _ => rfl) ?_
  refine pj_R_ca (pj_cx_mon _) (vs := [.ref a, .long ((Int32.ofInt 0).toInt64)]) (S2 := []) rfl (fun _ => rfl) ⟨Nat.le_of_ble_eq_true rfl, Nat.le_of_ble_eq_true rfl, pj_rcvI a4⟩ ⟨rfl, rfl, rfl⟩ e5 ?_
  show pj_R _ _ _ _ (G5, 58, [(2, .int k3), (0, .ref a), (1, .int n)], [], 0, 0) _
  refine pj_R_to (G5, 60, [(2, .int k3), (0, .ref a), (1, .int n)], [.ref a, .ref a], 0, 0) 60 3 (fun _ => rfl) ?_
  refine pj_R_gf rfl a5 (by show (fc.set 1 _)[34]? = _; rw [List.getElem?_set_ne (by decide)]; exact C34) ?_
  refine pj_R_to (G5, 64, [(2, .int k3), (0, .ref a), (1, .int n)], [.long ((Int32.ofInt 0).toInt64), .ref a], 0, 0) 64 2 (fun _ => rfl) ?_
  refine pj_R_ca (pj_cx_mon _) (vs := [.ref a, .long ((Int32.ofInt 0).toInt64)]) (S2 := []) rfl (fun _ => rfl) ⟨Nat.le_of_ble_eq_true rfl, Nat.le_of_ble_eq_true rfl, pj_rcvI a5⟩ ⟨rfl, rfl, rfl⟩ e6 ?_
  show pj_R _ _ _ _ (G6, 67, [(2, .int k3), (0, .ref a), (1, .int n)], [], 0, 0) _
  refine pj_R_to (G6, 69, [(2, .int k3), (0, .ref a), (1, .int n)], [.ref a, .ref a], 0, 0) 69 3 (fun _ => rfl) ?_
  refine pj_R_gf rfl a6 (by show (fc.set 1 _)[14]? = _; rw [List.getElem?_set_ne (by decide)]; exact C14) ?_
  refine pj_R_to (G6, 74, [(2, .int k3), (0, .ref a), (1, .int n)], [.int ((Int8.ofInt 30).toInt32), .ref na, .ref a], 0, 0) 74 2 (fun _ => rfl) ?_
  refine pj_R_il rfl n6 (by decide) ?_
  refine pj_R_ca (pj_cx_mon _) (vs := [.ref a, .int (f3 ((Int8.ofInt 30).toInt32).toNatClampNeg)]) (S2 := [.int (f3 ((Int8.ofInt 30).toInt32).toNatClampNeg)]) rfl (fun _ => rfl) ⟨Nat.le_of_ble_eq_true rfl, Nat.le_of_ble_eq_true rfl, pj_rcvI a6⟩ ⟨rfl, rfl, rfl⟩ e7 ?_
  show pj_R _ _ _ _ (G7, 78, [(2, .int k3), (0, .ref a), (1, .int n)], [.int (f3 ((Int8.ofInt 30).toInt32).toNatClampNeg)], 0, 0) _
  exact pj_R_rt rfl rfl
