theorem pj_rcvI {G : pj_G} {a c : Nat} {fs : List Value} {t : List Value} (h : pj_get G a = some (.inr (c, fs))) : pj_rcv 0 c G (.ref a :: t) = true := by
  unfold pj_rcv
  simp only [h, beq_self_eq_true]
/-! THE ROW, by hand -/
theorem pj_gp {G : pj_G} {a : Nat} {c c0 : pj_C} (h : pj_get G a = some c0) : pj_get (pj_put G a c) a = some c := by
  cases a with
  | zero => cases h
  | succ i =>
    have h1 : G.1[i]? = some c0 := h
    have h2 := (List.getElem?_eq_some_iff.mp h1).1
    show (G.1.set i c)[i]? = some c
    rw [List.getElem?_set_self h2]
theorem pj_gn {G : pj_G} {a b : Nat} {c c0 : pj_C} (h : pj_get G a = some c0) (hb : b ≠ a) : pj_get (pj_put G a c) b = pj_get G b := by
  cases a with
  | zero => cases h
  | succ i =>
    cases b with
    | zero => rfl
    | succ j =>
      show (G.1.set i c)[j]? = G.1[j]?
      rw [List.getElem?_set_ne (by omega)]
theorem pj_pp {G : pj_G} {a : Nat} {c c2 : pj_C} : pj_put (pj_put G a c) a c2 = pj_put G a c2 := by
  show ((G.1.set (a - 1) c).set (a - 1) c2, G.2) = (G.1.set (a - 1) c2, G.2)
  rw [List.set_set]
def pj_same (G G' : pj_G) (X : List Nat) : Prop := ∀ b, b ∉ X → pj_get G' b = pj_get G b
theorem pj_same_t {G G1 G2 : pj_G} {X : List Nat} (h1 : pj_same G G1 X) (h2 : pj_same G1 G2 X) : pj_same G G2 X := fun b hb => by rw [h2 b hb, h1 b hb]
section PJR2
variable {C : Nat → pj_F} {n0 : Nat} {xs : Nat → Int32} {M : pj_M} {r : Option Value × pj_G × Nat × Nat} {G : pj_G} {pc mc ms : Nat} {L : pj_L} {S : List Value}
theorem pj_R_al {len : Nat} {inf : List Nat} {z : Int} {a k : Nat} {x : vp_A} (hf : pj_find M.2.2.2.2.2 pc = some (.arraylength, len, inf, z)) (hg : pj_get G a = some (.inl (k, x))) (hk : k < 4) (h2 : pj_R C n0 xs M (G, pc + 1, L, .int (Int32.ofNat x.1) :: S, mc, ms) r) : pj_R C n0 xs M (G, pc, L, .ref a :: S, mc, ms) r := by
  cases a with
  | zero => cases hg
  | succ i =>
    refine pj_R_st (t' := (G, pc + 1, L, .int (Int32.ofNat x.1) :: S, 0, 0)) hf (fun call => ?_) h2
    show (pj_aln n0 G (.ref (i + 1) :: S)).map (fun r => ((G, pc + 1, L, r, 0, 0) : pj_T)) = _
    have e : pj_aln n0 G (.ref (i + 1) :: S) = some (.int (Int32.ofNat x.1) :: S) := by
      show (match pj_get G (i + 1) with
        | some (.inl (k, x)) => if k < 4 then some (Value.int (Int32.ofNat x.1) :: S) else none
        | _ => none) = _
      rw [hg]
      exact if_pos hk
    rw [e]
    rfl
theorem pj_R_la {len : Nat} {inf : List Nat} {z : Int} {a n : Nat} {f : Nat → Int64} {j : Int32} {x : Int64} (hf : pj_find M.2.2.2.2.2 pc = some (.lastore, len, inf, z)) (hg : pj_get G a = some (.inl (1, n, .inr (.inl f)))) (hj : ¬ (j < 0 ∨ n ≤ j.toNatClampNeg)) (h2 : pj_R C n0 xs M (pj_put G a (.inl (1, n, .inr (.inl (vp_updL f j.toNatClampNeg x)))), pc + 1, L, S, mc, ms) r) : pj_R C n0 xs M (G, pc, L, .long x :: .int j :: .ref a :: S, mc, ms) r := by
  refine pj_R_st (t' := (pj_put G a (.inl (1, n, .inr (.inl (vp_updL f j.toNatClampNeg x)))), pc + 1, L, S, 0, 0)) hf (fun call => ?_) h2
  show (pj_asl G (.long x :: .int j :: .ref a :: S)).map (fun r => ((r.1, pc + 1, L, r.2, 0, 0) : pj_T)) = _
  have e : pj_asl G (.long x :: .int j :: .ref a :: S) = some (pj_put G a (.inl (1, n, .inr (.inl (vp_updL f j.toNatClampNeg x)))), S) := by
    unfold pj_asl
    simp only [hg]
    exact if_pos ⟨trivial, hj⟩
  rw [e]
  rfl
end PJR2
def pj_row (G : pj_G) (o nn : Nat) (s : Int32) : Prop := pj_get G o = some (.inr (6, [.ref nn, .int s])) ∧ ∃ f, pj_get G nn = some (.inl (1, 10, .inr (.inl f)))
theorem pj_row_ne {G : pj_G} {o nn : Nat} {s : Int32} (h : pj_row G o nn s) : o ≠ nn := fun e => by
  obtain ⟨h1, f, h2⟩ := h
  rw [e, h2] at h1
  cases h1
theorem pj_clear (G : pj_G) (o nn : Nat) (s : Int32) (h : pj_row G o nn s) : ∃ G', pj_E (pj_cx 1) 53 [.ref o] G (none, G', 0, 0) ∧ pj_row G' o nn (Int32.ofInt 0) ∧ pj_same G G' [o, nn] := by
  have hne := pj_row_ne h
  obtain ⟨h1, f, h2⟩ := h
  refine ⟨pj_put G o (.inr (6, [.ref nn, .int (Int32.ofInt 0)])), ?_, ⟨pj_gp h1, f, by rw [pj_gn h1 (Ne.symm hne), h2]⟩, fun b hb => pj_gn h1 (fun e => hb (by rw [e]; exact List.mem_cons_self))⟩
  refine pj_E_R (M := pj_m53) rfl rfl (Nat.le_of_ble_eq_true rfl) ?_
  show pj_R _ _ _ _ (G, 0, [(0, .ref o)], [], 0, 0) _
  refine pj_R_to (G, 2, [(0, .ref o)], [.int (Int32.ofInt 0), .ref o], 0, 0) 2 3 (fun _ => rfl) ?_
  refine pj_R_pf rfl h1 (Nat.le_of_ble_eq_true rfl) rfl ?_
  show pj_R _ _ _ _ (pj_put G o (.inr (6, [.ref nn, .int (Int32.ofInt 0)])), 5, [(0, .ref o)], [], 0, 0) _
  exact pj_R_rt rfl rfl
theorem pj_addE (G : pj_G) (o nn : Nat) (s : Int32) (v : Int64) (h : pj_row G o nn s) (hs : ¬ (s < 0 ∨ 10 ≤ s.toNatClampNeg)) (hs2 : pj_c1 .ge s (Int32.ofNat 10) = false) : ∃ G', pj_E (pj_cx 1) 54 [.ref o, .long v] G (none, G', 0, 0) ∧ pj_row G' o nn (s + Int32.ofInt 1) ∧ pj_same G G' [o, nn] := by
  have hne := pj_row_ne h
  obtain ⟨h1, f, h2⟩ := h
  have k1 : pj_get (pj_put G nn (.inl (1, 10, .inr (.inl (vp_updL f s.toNatClampNeg v))))) o = some (.inr (6, [.ref nn, .int s])) := by rw [pj_gn h2 hne, h1]
  have k2 : pj_get (pj_put G nn (.inl (1, 10, .inr (.inl (vp_updL f s.toNatClampNeg v))))) nn = some (.inl (1, 10, .inr (.inl (vp_updL f s.toNatClampNeg v)))) := pj_gp h2
  refine ⟨pj_put (pj_put G nn (.inl (1, 10, .inr (.inl (vp_updL f s.toNatClampNeg v))))) o (.inr (6, [.ref nn, .int (s + Int32.ofInt 1)])), ?_, ⟨pj_gp k1, _, by rw [pj_gn k1 (Ne.symm hne), k2]⟩, fun b hb => ?_⟩
  rotate_left
  · rw [pj_gn k1 (fun e => hb (by rw [e]; exact List.mem_cons_self)), pj_gn h2 (fun e => hb (by rw [e]; exact List.mem_cons_of_mem _ List.mem_cons_self))]
  refine pj_E_R (M := pj_m54) rfl rfl (Nat.le_of_ble_eq_true rfl) ?_
  show pj_R _ _ _ _ (G, 0, [(0, .ref o), (1, .long v)], [], 0, 0) _
  refine pj_R_to (G, 1, [(0, .ref o), (1, .long v)], [.ref o], 0, 0) 1 2 (fun _ => rfl) ?_
  refine pj_R_gf rfl h1 rfl ?_
  refine pj_R_to (G, 5, [(0, .ref o), (1, .long v)], [.ref o, .int s], 0, 0) 5 2 (fun _ => rfl) ?_
  refine pj_R_gf rfl h1 rfl ?_
  refine pj_R_al rfl h2 (by decide) ?_
  refine pj_R_icF rfl hs2 ?_
  refine pj_R_to (G, 13, [(0, .ref o), (1, .long v)], [.ref o], 0, 0) 13 2 (fun _ => rfl) ?_
  refine pj_R_gf rfl h1 rfl ?_
  refine pj_R_to (G, 17, [(0, .ref o), (1, .long v)], [.ref o, .ref nn], 0, 0) 17 2 (fun _ => rfl) ?_
  refine pj_R_gf rfl h1 rfl ?_
  refine pj_R_to (G, 21, [(0, .ref o), (1, .long v)], [.long v, .int s, .ref nn], 0, 0) 21 2 (fun _ => rfl) ?_
  refine pj_R_la rfl h2 hs ?_
  refine pj_R_to (pj_put G nn (.inl (1, 10, .inr (.inl (vp_updL f s.toNatClampNeg v)))), 24, [(0, .ref o), (1, .long v)], [.ref o, .ref o], 0, 0) 24 3 (fun _ => rfl) ?_
  refine pj_R_gf rfl k1 rfl ?_
  refine pj_R_to (pj_put G nn (.inl (1, 10, .inr (.inl (vp_updL f s.toNatClampNeg v)))), 29, [(0, .ref o), (1, .long v)], [.int (s + (Int32.ofInt 1)), .ref o], 0, 0) 29 3 (fun _ => rfl) ?_
  refine pj_R_pf rfl k1 (Nat.le_of_ble_eq_true rfl) rfl ?_
  show pj_R _ _ _ _ (pj_put (pj_put G nn (.inl (1, 10, .inr (.inl (vp_updL f s.toNatClampNeg v))))) o (.inr (6, [.ref nn, .int (s + Int32.ofInt 1)])), 32, [(0, .ref o), (1, .long v)], [], 0, 0) _
  exact pj_R_rt rfl rfl
theorem pj_tellOne (G : pj_G) (o nn : Nat) (s : Int32) (v : Int64) (h : pj_row G o nn s) : ∃ G', pj_E (pj_cx 2) 55 [.ref o, .long v] G (none, G', 0, 0) ∧ pj_same G G' [o, nn] := by
  obtain ⟨G1, e1, r1, s1⟩ := pj_clear G o nn s h
  obtain ⟨G2, e2, r2, s2⟩ := pj_addE G1 o nn _ v r1 (by decide) (by decide)
  refine ⟨G2, ?_, pj_same_t s1 s2⟩
  refine pj_E_R (M := pj_m55) rfl rfl (Nat.le_of_ble_eq_true rfl) ?_
  show pj_R _ _ _ _ (G, 0, [(0, .ref o), (1, .long v)], [], 0, 0) _
  refine pj_R_to (G, 1, [(0, .ref o), (1, .long v)], [.ref o], 0, 0) 1 2 (fun _ => rfl) ?_
  refine pj_R_ca (pj_cx_mon _) (vs := [.ref o]) (S2 := []) rfl (fun _ => rfl) ⟨Nat.le_of_ble_eq_true rfl, Nat.le_of_ble_eq_true rfl, pj_rcvI h.1⟩ ⟨rfl, rfl, rfl⟩ e1 ?_
  show pj_R _ _ _ _ (G1, 4, [(0, .ref o), (1, .long v)], [], 0, 0) _
  refine pj_R_to (G1, 6, [(0, .ref o), (1, .long v)], [.long v, .ref o], 0, 0) 6 3 (fun _ => rfl) ?_
  refine pj_R_ca (pj_cx_mon _) (vs := [.ref o, .long v]) (S2 := []) rfl (fun _ => rfl) ⟨Nat.le_of_ble_eq_true rfl, Nat.le_of_ble_eq_true rfl, pj_rcvI r1.1⟩ ⟨rfl, rfl, rfl⟩ e2 ?_
  show pj_R _ _ _ _ (G2, 9, [(0, .ref o), (1, .long v)], [], 0, 0) _
  exact pj_R_rt rfl rfl
theorem pj_tellTwo (G : pj_G) (o nn : Nat) (s : Int32) (v u : Int64) (h : pj_row G o nn s) : ∃ G', pj_E (pj_cx 2) 56 [.ref o, .long v, .long u] G (none, G', 0, 0) ∧ pj_same G G' [o, nn] := by
  obtain ⟨G1, e1, r1, s1⟩ := pj_clear G o nn s h
  obtain ⟨G2, e2, r2, s2⟩ := pj_addE G1 o nn _ v r1 (by decide) (by decide)
  obtain ⟨G3, e3, r3, s3⟩ := pj_addE G2 o nn _ u r2 (by decide) (by decide)
  refine ⟨G3, ?_, pj_same_t s1 (pj_same_t s2 s3)⟩
  refine pj_E_R (M := pj_m56) rfl rfl (Nat.le_of_ble_eq_true rfl) ?_
  show pj_R _ _ _ _ (G, 0, [(0, .ref o), (1, .long v), (3, .long u)], [], 0, 0) _
  refine pj_R_to (G, 1, [(0, .ref o), (1, .long v), (3, .long u)], [.ref o], 0, 0) 1 2 (fun _ => rfl) ?_
  refine pj_R_ca (pj_cx_mon _) (vs := [.ref o]) (S2 := []) rfl (fun _ => rfl) ⟨Nat.le_of_ble_eq_true rfl, Nat.le_of_ble_eq_true rfl, pj_rcvI h.1⟩ ⟨rfl, rfl, rfl⟩ e1 ?_
  show pj_R _ _ _ _ (G1, 4, [(0, .ref o), (1, .long v), (3, .long u)], [], 0, 0) _
  refine pj_R_to (G1, 6, [(0, .ref o), (1, .long v), (3, .long u)], [.long v, .ref o], 0, 0) 6 3 (fun _ => rfl) ?_
  refine pj_R_ca (pj_cx_mon _) (vs := [.ref o, .long v]) (S2 := []) rfl (fun _ => rfl) ⟨Nat.le_of_ble_eq_true rfl, Nat.le_of_ble_eq_true rfl, pj_rcvI r1.1⟩ ⟨rfl, rfl, rfl⟩ e2 ?_
  show pj_R _ _ _ _ (G2, 9, [(0, .ref o), (1, .long v), (3, .long u)], [], 0, 0) _
  refine pj_R_to (G2, 11, [(0, .ref o), (1, .long v), (3, .long u)], [.long u, .ref o], 0, 0) 11 3 (fun _ => rfl) ?_
  refine pj_R_ca (pj_cx_mon _) (vs := [.ref o, .long u]) (S2 := []) rfl (fun _ => rfl) ⟨Nat.le_of_ble_eq_true rfl, Nat.le_of_ble_eq_true rfl, pj_rcvI r2.1⟩ ⟨rfl, rfl, rfl⟩ e3 ?_
  show pj_R _ _ _ _ (G3, 14, [(0, .ref o), (1, .long v), (3, .long u)], [], 0, 0) _
  exact pj_R_rt rfl rfl
/-! SHARE AND TURN OF THE CLASS -/
theorem pj_w24 {w : Int32} (h : 0 ≤ w.toInt ∧ w.toInt ≤ 16777215) : w >>> ((Int8.ofInt 24).toInt32 &&& 31) = 0 := by
  rw [← Int32.toInt_inj, pj_shr]
  have e : (((Int8.ofInt 24).toInt32 &&& 31).toBitVec.smod 32).toNat = 24 := by decide
  rw [e, Int.shiftRight_eq_div_pow, pj_lz0]
  have e2 : ((2 ^ 24 : Nat) : Int) = 16777216 := by decide
  rw [e2]
  omega
theorem pj_l1 : (Int32.ofInt 1).toInt = 1 := pj_li1
theorem pj_l24 : ((Int8.ofInt 24).toInt32).toInt = 24 := by decide
theorem pj_l48 : ((Int8.ofInt 48).toInt32).toInt = 48 := by decide
theorem pj_shareX (G : pj_G) (ax o nn : Nat) (fx : List Value) (s0 one other n k : Int32) (hx : pj_get G ax = some (.inr (11, fx))) (ho : fx[1]? = some (.ref o)) (hr : pj_row G o nn s0) (h1 : 0 ≤ one.toInt ∧ one.toInt ≤ 16777215) (h2 : 0 ≤ other.toInt ∧ other.toInt ≤ 16777215) (h3 : 1 ≤ n.toInt ∧ n.toInt ≤ 48) (h4 : 1 ≤ k.toInt ∧ k.toInt ≤ 48) : ∃ G', pj_E (pj_cx 3) 152 [.ref ax, .int one, .int other, .int n, .int k] G (some (.int (pj_hwf one n k (Int32.ofInt 0) + pj_hwf other n k (Int32.ofInt 1))), G', 0, 0) ∧ pj_same G G' [o, nn] := by
  have hk : 0 < k.toInt := by omega
  have hn : 0 ≤ n.toInt := by omega
  obtain ⟨G1, e1, s1⟩ := pj_tellTwo G o nn s0 (pj_hwf one n k (Int32.ofInt 1)).toInt64 (pj_hwf other n k (Int32.ofInt 0)).toInt64 hr
  refine ⟨G1, ?_, s1⟩
  refine pj_E_R (M := pj_m152) rfl rfl (Nat.le_of_ble_eq_true rfl) ?_
  show pj_R _ _ _ _ (G, 0, [(0, .ref ax), (1, .int one), (2, .int other), (3, .int n), (4, .int k)], [], 0, 0) _
  refine pj_R_to (G, 3, [(0, .ref ax), (1, .int one), (2, .int other), (3, .int n), (4, .int k)], [.int ((Int8.ofInt 24).toInt32), .int one], 0, 0) 3 3 (fun _ => rfl) ?_
  refine pj_R_ca (pj_cx_mon _) (vs := [.int one, .int ((Int8.ofInt 24).toInt32)]) (S2 := [.int (Int32.ofInt 1)]) rfl (fun _ => rfl) ⟨Nat.le_of_ble_eq_true rfl, Nat.le_of_ble_eq_true rfl, rfl⟩ ⟨rfl, rfl, rfl⟩ (pj_E_up (by decide) (pj_within G one _ (pj_w24 h1))) ?_
  show pj_R _ _ _ _ (G, 6, [(0, .ref ax), (1, .int one), (2, .int other), (3, .int n), (4, .int k)], [.int (Int32.ofInt 1)], 0, 0) _
  refine pj_R_ifF rfl (by decide) ?_
  refine pj_R_to (G, 12, [(0, .ref ax), (1, .int one), (2, .int other), (3, .int n), (4, .int k)], [.int ((Int8.ofInt 24).toInt32), .int other], 0, 0) 12 3 (fun _ => rfl) ?_
  refine pj_R_ca (pj_cx_mon _) (vs := [.int other, .int ((Int8.ofInt 24).toInt32)]) (S2 := [.int (Int32.ofInt 1)]) rfl (fun _ => rfl) ⟨Nat.le_of_ble_eq_true rfl, Nat.le_of_ble_eq_true rfl, rfl⟩ ⟨rfl, rfl, rfl⟩ (pj_E_up (by decide) (pj_within G other _ (pj_w24 h2))) ?_
  show pj_R _ _ _ _ (G, 15, [(0, .ref ax), (1, .int one), (2, .int other), (3, .int n), (4, .int k)], [.int (Int32.ofInt 1)], 0, 0) _
  refine pj_R_ifF rfl (by decide) ?_
  refine pj_R_to (G, 20, [(0, .ref ax), (1, .int one), (2, .int other), (3, .int n), (4, .int k)], [.int (Int32.ofInt 1), .int n], 0, 0) 20 3 (fun _ => rfl) ?_
  refine pj_R_icF rfl (by simp only [pj_c1, decide_eq_true_eq, decide_eq_false_iff_not, Int32.lt_iff_toInt_lt, Int32.le_iff_toInt_le, pj_l1, pj_l24, pj_l48]; omega) ?_
  refine pj_R_to (G, 26, [(0, .ref ax), (1, .int one), (2, .int other), (3, .int n), (4, .int k)], [.int ((Int8.ofInt 48).toInt32), .int n], 0, 0) 26 3 (fun _ => rfl) ?_
  refine pj_R_icF rfl (by simp only [pj_c1, decide_eq_true_eq, decide_eq_false_iff_not, Int32.lt_iff_toInt_lt, Int32.le_iff_toInt_le, pj_l1, pj_l24, pj_l48]; omega) ?_
  refine pj_R_to (G, 32, [(0, .ref ax), (1, .int one), (2, .int other), (3, .int n), (4, .int k)], [.int (Int32.ofInt 1), .int k], 0, 0) 32 3 (fun _ => rfl) ?_
  refine pj_R_icF rfl (by simp only [pj_c1, decide_eq_true_eq, decide_eq_false_iff_not, Int32.lt_iff_toInt_lt, Int32.le_iff_toInt_le, pj_l1, pj_l24, pj_l48]; omega) ?_
  refine pj_R_to (G, 39, [(0, .ref ax), (1, .int one), (2, .int other), (3, .int n), (4, .int k)], [.int ((Int8.ofInt 48).toInt32), .int k], 0, 0) 39 3 (fun _ => rfl) ?_
  refine pj_R_icT 44 rfl rfl (by simp only [pj_c1, decide_eq_true_eq, decide_eq_false_iff_not, Int32.lt_iff_toInt_lt, Int32.le_iff_toInt_le, pj_l1, pj_l24, pj_l48]; omega) ?_
  refine pj_R_to (G, 45, [(0, .ref ax), (1, .int one), (2, .int other), (3, .int n), (4, .int k)], [.ref ax], 0, 0) 45 2 (fun _ => rfl) ?_
  refine pj_R_gf rfl hx ho ?_
  refine pj_R_to (G, 53, [(0, .ref ax), (1, .int one), (2, .int other), (3, .int n), (4, .int k)], [.int (Int32.ofInt 1), .int k, .int n, .int one, .ref o], 0, 0) 53 5 (fun _ => rfl) ?_
  refine pj_R_ca (pj_cx_mon _) (vs := [.int one, .int n, .int k, .int (Int32.ofInt 1)]) (S2 := [.int (pj_hwf one n k (Int32.ofInt 1)), .ref o]) rfl (fun _ => rfl) ⟨Nat.le_of_ble_eq_true rfl, Nat.le_of_ble_eq_true rfl, rfl⟩ ⟨rfl, rfl, rfl⟩ (pj_hw_E G one n k (Int32.ofInt 1) hk hn) ?_
  show pj_R _ _ _ _ (G, 56, [(0, .ref ax), (1, .int one), (2, .int other), (3, .int n), (4, .int k)], [.int (pj_hwf one n k (Int32.ofInt 1)), .ref o], 0, 0) _
  refine pj_R_to (G, 62, [(0, .ref ax), (1, .int one), (2, .int other), (3, .int n), (4, .int k)], [.int (Int32.ofInt 0), .int k, .int n, .int other, .long ((pj_hwf one n k (Int32.ofInt 1)).toInt64), .ref o], 0, 0) 62 6 (fun _ => rfl) ?_
  refine pj_R_ca (pj_cx_mon _) (vs := [.int other, .int n, .int k, .int (Int32.ofInt 0)]) (S2 := [.int (pj_hwf other n k (Int32.ofInt 0)), .long ((pj_hwf one n k (Int32.ofInt 1)).toInt64), .ref o]) rfl (fun _ => rfl) ⟨Nat.le_of_ble_eq_true rfl, Nat.le_of_ble_eq_true rfl, rfl⟩ ⟨rfl, rfl, rfl⟩ (pj_hw_E G other n k (Int32.ofInt 0) hk hn) ?_
  show pj_R _ _ _ _ (G, 65, [(0, .ref ax), (1, .int one), (2, .int other), (3, .int n), (4, .int k)], [.int (pj_hwf other n k (Int32.ofInt 0)), .long ((pj_hwf one n k (Int32.ofInt 1)).toInt64), .ref o], 0, 0) _
  refine pj_R_to (G, 66, [(0, .ref ax), (1, .int one), (2, .int other), (3, .int n), (4, .int k)], [.long ((pj_hwf other n k (Int32.ofInt 0)).toInt64), .long ((pj_hwf one n k (Int32.ofInt 1)).toInt64), .ref o], 0, 0) 66 2 (fun _ => rfl) ?_
  refine pj_R_ca (pj_cx_mon _) (vs := [.ref o, .long ((pj_hwf one n k (Int32.ofInt 1)).toInt64), .long ((pj_hwf other n k (Int32.ofInt 0)).toInt64)]) (S2 := []) rfl (fun _ => rfl) ⟨Nat.le_of_ble_eq_true rfl, Nat.le_of_ble_eq_true rfl, pj_rcvI hr.1⟩ ⟨rfl, rfl, rfl⟩ e1 ?_
  show pj_R _ _ _ _ (G1, 69, [(0, .ref ax), (1, .int one), (2, .int other), (3, .int n), (4, .int k)], [], 0, 0) _
  refine pj_R_to (G1, 74, [(0, .ref ax), (1, .int one), (2, .int other), (3, .int n), (4, .int k)], [.int (Int32.ofInt 0), .int k, .int n, .int one], 0, 0) 74 5 (fun _ => rfl) ?_
  refine pj_R_ca (pj_cx_mon _) (vs := [.int one, .int n, .int k, .int (Int32.ofInt 0)]) (S2 := [.int (pj_hwf one n k (Int32.ofInt 0))]) rfl (fun _ => rfl) ⟨Nat.le_of_ble_eq_true rfl, Nat.le_of_ble_eq_true rfl, rfl⟩ ⟨rfl, rfl, rfl⟩ (pj_hw_E G1 one n k (Int32.ofInt 0) hk hn) ?_
  show pj_R _ _ _ _ (G1, 77, [(0, .ref ax), (1, .int one), (2, .int other), (3, .int n), (4, .int k)], [.int (pj_hwf one n k (Int32.ofInt 0))], 0, 0) _
  refine pj_R_to (G1, 82, [(0, .ref ax), (1, .int one), (2, .int other), (3, .int n), (4, .int k)], [.int (Int32.ofInt 1), .int k, .int n, .int other, .int (pj_hwf one n k (Int32.ofInt 0))], 0, 0) 82 5 (fun _ => rfl) ?_
  refine pj_R_ca (pj_cx_mon _) (vs := [.int other, .int n, .int k, .int (Int32.ofInt 1)]) (S2 := [.int (pj_hwf other n k (Int32.ofInt 1)), .int (pj_hwf one n k (Int32.ofInt 0))]) rfl (fun _ => rfl) ⟨Nat.le_of_ble_eq_true rfl, Nat.le_of_ble_eq_true rfl, rfl⟩ ⟨rfl, rfl, rfl⟩ (pj_hw_E G1 other n k (Int32.ofInt 1) hk hn) ?_
  show pj_R _ _ _ _ (G1, 85, [(0, .ref ax), (1, .int one), (2, .int other), (3, .int n), (4, .int k)], [.int (pj_hwf other n k (Int32.ofInt 1)), .int (pj_hwf one n k (Int32.ofInt 0))], 0, 0) _
  refine pj_R_to (G1, 86, [(0, .ref ax), (1, .int one), (2, .int other), (3, .int n), (4, .int k)], [.int ((pj_hwf one n k (Int32.ofInt 0)) + (pj_hwf other n k (Int32.ofInt 1)))], 0, 0) 86 2 (fun _ => rfl) ?_
  exact pj_R_rt rfl rfl
def pj_sm (one other n k : Int32) : Int32 := pj_hwf one n k (Int32.ofInt 0) + pj_hwf other n k (Int32.ofInt 1)
def pj_tc (b m k s : Int32) : Int32 × Int32 := match decide (b = Int32.ofInt (-1)), decide (m < s) with
  | false, false => (b, m)
  | _, _ => (k, s)
def pj_tcf (one other n : Int32) : Nat → Int32 → Int32 → Int32 → Int32 × Int32
  | 0, k, b, m => pj_tc b m k (pj_sm one other n k)
  | d + 1, k, b, m => pj_tcf one other n d (k + Int32.ofInt 1) (pj_tc b m k (pj_sm one other n k)).1 (pj_tc b m k (pj_sm one other n k)).2
theorem pj_inc24 {k : Int32} (h : k.toInt ≤ 24) : (k + Int32.ofInt 1).toInt = k.toInt + 1 := pj_inc (n := Int32.ofInt 25) (by
  have e : (Int32.ofInt 25).toInt = 25 := by decide
  omega)
theorem pj_turnX_end (G : pj_G) (ax o nn : Nat) (fx : List Value) (s0 one other n b m k t : Int32) (hx : pj_get G ax = some (.inr (11, fx))) (ho : fx[1]? = some (.ref o)) (hr : pj_row G o nn s0) : ∃ G', pj_same G G' [o, nn] ∧ pj_R (pj_cx 2) 0 pj_x0 pj_m153 (G, 93, [(6, .int k), (5, .int m), (4, .int b), (7, .int t), (0, .ref ax), (1, .int one), (2, .int other), (3, .int n)], [], 0, 0) (some (.int b), G', 0, 0) ∧ pj_R (pj_cx 2) 0 pj_x0 pj_m153 (G, 93, [(6, .int k), (7, .int t), (5, .int m), (4, .int b), (0, .ref ax), (1, .int one), (2, .int other), (3, .int n)], [], 0, 0) (some (.int b), G', 0, 0) := by
  obtain ⟨G1, e1, s1⟩ := pj_tellOne G o nn s0 m.toInt64 hr
  refine ⟨G1, s1, ?_, ?_⟩
  · refine pj_R_to (G, 94, [(6, .int k), (5, .int m), (4, .int b), (7, .int t), (0, .ref ax), (1, .int one), (2, .int other), (3, .int n)], [.ref ax], 0, 0) 94 2 (fun _ => rfl) ?_
    refine pj_R_gf rfl hx ho ?_
    refine pj_R_to (G, 100, [(6, .int k), (5, .int m), (4, .int b), (7, .int t), (0, .ref ax), (1, .int one), (2, .int other), (3, .int n)], [.long m.toInt64, .ref o], 0, 0) 100 3 (fun _ => rfl) ?_
    refine pj_R_ca (pj_cx_mon _) (vs := [.ref o, .long m.toInt64]) (S2 := []) rfl (fun _ => rfl) ⟨Nat.le_of_ble_eq_true rfl, Nat.le_of_ble_eq_true rfl, pj_rcvI hr.1⟩ ⟨rfl, rfl, rfl⟩ e1 ?_
    show pj_R _ _ _ _ (G1, 103, [(6, .int k), (5, .int m), (4, .int b), (7, .int t), (0, .ref ax), (1, .int one), (2, .int other), (3, .int n)], [], 0, 0) _
    refine pj_R_to (G1, 105, [(6, .int k), (5, .int m), (4, .int b), (7, .int t), (0, .ref ax), (1, .int one), (2, .int other), (3, .int n)], [.int b], 0, 0) 105 2 (fun _ => rfl) ?_
    exact pj_R_rt rfl rfl
  · refine pj_R_to (G, 94, [(6, .int k), (7, .int t), (5, .int m), (4, .int b), (0, .ref ax), (1, .int one), (2, .int other), (3, .int n)], [.ref ax], 0, 0) 94 2 (fun _ => rfl) ?_
    refine pj_R_gf rfl hx ho ?_
    refine pj_R_to (G, 100, [(6, .int k), (7, .int t), (5, .int m), (4, .int b), (0, .ref ax), (1, .int one), (2, .int other), (3, .int n)], [.long m.toInt64, .ref o], 0, 0) 100 3 (fun _ => rfl) ?_
    refine pj_R_ca (pj_cx_mon _) (vs := [.ref o, .long m.toInt64]) (S2 := []) rfl (fun _ => rfl) ⟨Nat.le_of_ble_eq_true rfl, Nat.le_of_ble_eq_true rfl, pj_rcvI hr.1⟩ ⟨rfl, rfl, rfl⟩ e1 ?_
    show pj_R _ _ _ _ (G1, 103, [(6, .int k), (7, .int t), (5, .int m), (4, .int b), (0, .ref ax), (1, .int one), (2, .int other), (3, .int n)], [], 0, 0) _
    refine pj_R_to (G1, 105, [(6, .int k), (7, .int t), (5, .int m), (4, .int b), (0, .ref ax), (1, .int one), (2, .int other), (3, .int n)], [.int b], 0, 0) 105 2 (fun _ => rfl) ?_
    exact pj_R_rt rfl rfl
/-- from the loop's head to behind the sum, in all three shapes of the locals -/
theorem pj_turnX_head (G : pj_G) (ax : Nat) (one other n b m k t : Int32) (h3 : 1 ≤ n.toInt ∧ n.toInt ≤ 48) (hk : 1 ≤ k.toInt ∧ k.toInt ≤ 24) {r : Option Value × pj_G × Nat × Nat} (h : pj_R (pj_cx 2) 0 pj_x0 pj_m153 (G, 66, [(7, .int (pj_sm one other n k)), (6, .int k), (5, .int m), (4, .int b), (0, .ref ax), (1, .int one), (2, .int other), (3, .int n)], [], 0, 0) r) : pj_R (pj_cx 2) 0 pj_x0 pj_m153 (G, 40, [(6, .int k), (5, .int m), (4, .int b), (0, .ref ax), (1, .int one), (2, .int other), (3, .int n)], [], 0, 0) r ∧ pj_R (pj_cx 2) 0 pj_x0 pj_m153 (G, 40, [(6, .int k), (5, .int m), (4, .int b), (7, .int t), (0, .ref ax), (1, .int one), (2, .int other), (3, .int n)], [], 0, 0) r ∧ pj_R (pj_cx 2) 0 pj_x0 pj_m153 (G, 40, [(6, .int k), (7, .int t), (5, .int m), (4, .int b), (0, .ref ax), (1, .int one), (2, .int other), (3, .int n)], [], 0, 0) r := by
  have hk0 : 0 < k.toInt := by omega
  have hn : 0 ≤ n.toInt := by omega
  refine ⟨?_, ?_, ?_⟩
  · refine pj_R_to (G, 44, [(6, .int k), (5, .int m), (4, .int b), (0, .ref ax), (1, .int one), (2, .int other), (3, .int n)], [.int ((Int8.ofInt 24).toInt32), .int k], 0, 0) 44 3 (fun _ => rfl) ?_
    refine pj_R_icF rfl (by simp only [pj_c1, decide_eq_true_eq, decide_eq_false_iff_not, Int32.lt_iff_toInt_lt, Int32.le_iff_toInt_le, pj_l1, pj_l24, pj_l48]; omega) ?_
    refine pj_R_to (G, 52, [(6, .int k), (5, .int m), (4, .int b), (0, .ref ax), (1, .int one), (2, .int other), (3, .int n)], [.int (Int32.ofInt 0), .int k, .int n, .int one], 0, 0) 52 5 (fun _ => rfl) ?_
    refine pj_R_ca (pj_cx_mon _) (vs := [.int one, .int n, .int k, .int (Int32.ofInt 0)]) (S2 := [.int (pj_hwf one n k (Int32.ofInt 0))]) rfl (fun _ => rfl) ⟨Nat.le_of_ble_eq_true rfl, Nat.le_of_ble_eq_true rfl, rfl⟩ ⟨rfl, rfl, rfl⟩ (pj_hw_E G one n k (Int32.ofInt 0) hk0 hn) ?_
    show pj_R _ _ _ _ (G, 55, [(6, .int k), (5, .int m), (4, .int b), (0, .ref ax), (1, .int one), (2, .int other), (3, .int n)], [.int (pj_hwf one n k (Int32.ofInt 0))], 0, 0) _
    refine pj_R_to (G, 60, [(6, .int k), (5, .int m), (4, .int b), (0, .ref ax), (1, .int one), (2, .int other), (3, .int n)], [.int (Int32.ofInt 1), .int k, .int n, .int other, .int (pj_hwf one n k (Int32.ofInt 0))], 0, 0) 60 5 (fun _ => rfl) ?_
    refine pj_R_ca (pj_cx_mon _) (vs := [.int other, .int n, .int k, .int (Int32.ofInt 1)]) (S2 := [.int (pj_hwf other n k (Int32.ofInt 1)), .int (pj_hwf one n k (Int32.ofInt 0))]) rfl (fun _ => rfl) ⟨Nat.le_of_ble_eq_true rfl, Nat.le_of_ble_eq_true rfl, rfl⟩ ⟨rfl, rfl, rfl⟩ (pj_hw_E G other n k (Int32.ofInt 1) hk0 hn) ?_
    show pj_R _ _ _ _ (G, 63, [(6, .int k), (5, .int m), (4, .int b), (0, .ref ax), (1, .int one), (2, .int other), (3, .int n)], [.int (pj_hwf other n k (Int32.ofInt 1)), .int (pj_hwf one n k (Int32.ofInt 0))], 0, 0) _
    refine pj_R_to (G, 66, [(7, .int ((pj_hwf one n k (Int32.ofInt 0)) + (pj_hwf other n k (Int32.ofInt 1)))), (6, .int k), (5, .int m), (4, .int b), (0, .ref ax), (1, .int one), (2, .int other), (3, .int n)], [], 0, 0) 66 3 (fun _ => rfl) ?_
    exact h
  · refine pj_R_to (G, 44, [(6, .int k), (5, .int m), (4, .int b), (7, .int t), (0, .ref ax), (1, .int one), (2, .int other), (3, .int n)], [.int ((Int8.ofInt 24).toInt32), .int k], 0, 0) 44 3 (fun _ => rfl) ?_
    refine pj_R_icF rfl (by simp only [pj_c1, decide_eq_true_eq, decide_eq_false_iff_not, Int32.lt_iff_toInt_lt, Int32.le_iff_toInt_le, pj_l1, pj_l24, pj_l48]; omega) ?_
    refine pj_R_to (G, 52, [(6, .int k), (5, .int m), (4, .int b), (7, .int t), (0, .ref ax), (1, .int one), (2, .int other), (3, .int n)], [.int (Int32.ofInt 0), .int k, .int n, .int one], 0, 0) 52 5 (fun _ => rfl) ?_
    refine pj_R_ca (pj_cx_mon _) (vs := [.int one, .int n, .int k, .int (Int32.ofInt 0)]) (S2 := [.int (pj_hwf one n k (Int32.ofInt 0))]) rfl (fun _ => rfl) ⟨Nat.le_of_ble_eq_true rfl, Nat.le_of_ble_eq_true rfl, rfl⟩ ⟨rfl, rfl, rfl⟩ (pj_hw_E G one n k (Int32.ofInt 0) hk0 hn) ?_
    show pj_R _ _ _ _ (G, 55, [(6, .int k), (5, .int m), (4, .int b), (7, .int t), (0, .ref ax), (1, .int one), (2, .int other), (3, .int n)], [.int (pj_hwf one n k (Int32.ofInt 0))], 0, 0) _
    refine pj_R_to (G, 60, [(6, .int k), (5, .int m), (4, .int b), (7, .int t), (0, .ref ax), (1, .int one), (2, .int other), (3, .int n)], [.int (Int32.ofInt 1), .int k, .int n, .int other, .int (pj_hwf one n k (Int32.ofInt 0))], 0, 0) 60 5 (fun _ => rfl) ?_
    refine pj_R_ca (pj_cx_mon _) (vs := [.int other, .int n, .int k, .int (Int32.ofInt 1)]) (S2 := [.int (pj_hwf other n k (Int32.ofInt 1)), .int (pj_hwf one n k (Int32.ofInt 0))]) rfl (fun _ => rfl) ⟨Nat.le_of_ble_eq_true rfl, Nat.le_of_ble_eq_true rfl, rfl⟩ ⟨rfl, rfl, rfl⟩ (pj_hw_E G other n k (Int32.ofInt 1) hk0 hn) ?_
    show pj_R _ _ _ _ (G, 63, [(6, .int k), (5, .int m), (4, .int b), (7, .int t), (0, .ref ax), (1, .int one), (2, .int other), (3, .int n)], [.int (pj_hwf other n k (Int32.ofInt 1)), .int (pj_hwf one n k (Int32.ofInt 0))], 0, 0) _
    refine pj_R_to (G, 66, [(7, .int ((pj_hwf one n k (Int32.ofInt 0)) + (pj_hwf other n k (Int32.ofInt 1)))), (6, .int k), (5, .int m), (4, .int b), (0, .ref ax), (1, .int one), (2, .int other), (3, .int n)], [], 0, 0) 66 3 (fun _ => rfl) ?_
    exact h
  · refine pj_R_to (G, 44, [(6, .int k), (7, .int t), (5, .int m), (4, .int b), (0, .ref ax), (1, .int one), (2, .int other), (3, .int n)], [.int ((Int8.ofInt 24).toInt32), .int k], 0, 0) 44 3 (fun _ => rfl) ?_
    refine pj_R_icF rfl (by simp only [pj_c1, decide_eq_true_eq, decide_eq_false_iff_not, Int32.lt_iff_toInt_lt, Int32.le_iff_toInt_le, pj_l1, pj_l24, pj_l48]; omega) ?_
    refine pj_R_to (G, 52, [(6, .int k), (7, .int t), (5, .int m), (4, .int b), (0, .ref ax), (1, .int one), (2, .int other), (3, .int n)], [.int (Int32.ofInt 0), .int k, .int n, .int one], 0, 0) 52 5 (fun _ => rfl) ?_
    refine pj_R_ca (pj_cx_mon _) (vs := [.int one, .int n, .int k, .int (Int32.ofInt 0)]) (S2 := [.int (pj_hwf one n k (Int32.ofInt 0))]) rfl (fun _ => rfl) ⟨Nat.le_of_ble_eq_true rfl, Nat.le_of_ble_eq_true rfl, rfl⟩ ⟨rfl, rfl, rfl⟩ (pj_hw_E G one n k (Int32.ofInt 0) hk0 hn) ?_
    show pj_R _ _ _ _ (G, 55, [(6, .int k), (7, .int t), (5, .int m), (4, .int b), (0, .ref ax), (1, .int one), (2, .int other), (3, .int n)], [.int (pj_hwf one n k (Int32.ofInt 0))], 0, 0) _
    refine pj_R_to (G, 60, [(6, .int k), (7, .int t), (5, .int m), (4, .int b), (0, .ref ax), (1, .int one), (2, .int other), (3, .int n)], [.int (Int32.ofInt 1), .int k, .int n, .int other, .int (pj_hwf one n k (Int32.ofInt 0))], 0, 0) 60 5 (fun _ => rfl) ?_
    refine pj_R_ca (pj_cx_mon _) (vs := [.int other, .int n, .int k, .int (Int32.ofInt 1)]) (S2 := [.int (pj_hwf other n k (Int32.ofInt 1)), .int (pj_hwf one n k (Int32.ofInt 0))]) rfl (fun _ => rfl) ⟨Nat.le_of_ble_eq_true rfl, Nat.le_of_ble_eq_true rfl, rfl⟩ ⟨rfl, rfl, rfl⟩ (pj_hw_E G other n k (Int32.ofInt 1) hk0 hn) ?_
    show pj_R _ _ _ _ (G, 63, [(6, .int k), (7, .int t), (5, .int m), (4, .int b), (0, .ref ax), (1, .int one), (2, .int other), (3, .int n)], [.int (pj_hwf other n k (Int32.ofInt 1)), .int (pj_hwf one n k (Int32.ofInt 0))], 0, 0) _
    refine pj_R_to (G, 66, [(7, .int ((pj_hwf one n k (Int32.ofInt 0)) + (pj_hwf other n k (Int32.ofInt 1)))), (6, .int k), (5, .int m), (4, .int b), (0, .ref ax), (1, .int one), (2, .int other), (3, .int n)], [], 0, 0) 66 3 (fun _ => rfl) ?_
    exact h
theorem pj_turnX_loop (G : pj_G) (ax o nn : Nat) (fx : List Value) (s0 one other n : Int32) (hx : pj_get G ax = some (.inr (11, fx))) (ho : fx[1]? = some (.ref o)) (hr : pj_row G o nn s0) (h3 : 1 ≤ n.toInt ∧ n.toInt ≤ 48) : ∀ (d : Nat) (k b m : Int32), 24 - k.toInt = d → 1 ≤ k.toInt → ∃ G', pj_same G G' [o, nn] ∧ pj_R (pj_cx 2) 0 pj_x0 pj_m153 (G, 66, [(7, .int (pj_sm one other n k)), (6, .int k), (5, .int m), (4, .int b), (0, .ref ax), (1, .int one), (2, .int other), (3, .int n)], [], 0, 0) (some (.int (pj_tcf one other n d k b m).1), G', 0, 0) := by
  intro d
  induction d with
  | zero =>
    intro k b m hd hk
    have hk24 : k.toInt ≤ 24 := by omega
    show ∃ G', _ ∧ pj_R _ _ _ _ _ (some (.int (pj_tc b m k (pj_sm one other n k)).1), G', 0, 0)
    have hgt : pj_c1 .gt (k + Int32.ofInt 1) (Int8.ofInt 24).toInt32 = true := by
      simp only [pj_c1, decide_eq_true_eq, Int32.lt_iff_toInt_lt, pj_l24, pj_inc24 hk24]
      omega
    generalize pj_sm one other n k = s at *
    unfold pj_tc
    cases hb : decide (b = Int32.ofInt (-1)) with
    | true =>
      have hb2 := of_decide_eq_true hb
      obtain ⟨G1, g1, g2, g3⟩ := pj_turnX_end G ax o nn fx s0 one other n k s (k + Int32.ofInt 1) s hx ho hr
      refine ⟨G1, g1, ?_⟩
      refine pj_R_to (G, 69, [(7, .int s), (6, .int k), (5, .int m), (4, .int b), (0, .ref ax), (1, .int one), (2, .int other), (3, .int n)], [.int (Int32.ofInt (-1)), .int b], 0, 0) 69 3 (fun _ => rfl) ?_
      refine pj_R_icT 79 rfl rfl (decide_eq_true hb2) ?_
      refine pj_R_to (G, 44, [(6, .int (k + Int32.ofInt 1)), (5, .int s), (4, .int k), (7, .int s), (0, .ref ax), (1, .int one), (2, .int other), (3, .int n)], [.int ((Int8.ofInt 24).toInt32), .int (k + Int32.ofInt 1)], 0, 0) 44 9 (fun _ => rfl) ?_
      refine pj_R_icT 93 rfl rfl hgt ?_
      exact g2
    | false =>
      have hb2 := of_decide_eq_false hb
      cases hm : decide (m < s) with
      | true =>
        have hm2 := of_decide_eq_true hm
        obtain ⟨G1, g1, g2, g3⟩ := pj_turnX_end G ax o nn fx s0 one other n k s (k + Int32.ofInt 1) s hx ho hr
        refine ⟨G1, g1, ?_⟩
        refine pj_R_to (G, 69, [(7, .int s), (6, .int k), (5, .int m), (4, .int b), (0, .ref ax), (1, .int one), (2, .int other), (3, .int n)], [.int (Int32.ofInt (-1)), .int b], 0, 0) 69 3 (fun _ => rfl) ?_
        refine pj_R_icF rfl (decide_eq_false hb2) ?_
        refine pj_R_to (G, 76, [(7, .int s), (6, .int k), (5, .int m), (4, .int b), (0, .ref ax), (1, .int one), (2, .int other), (3, .int n)], [.int m, .int s], 0, 0) 76 3 (fun _ => rfl) ?_
        refine pj_R_icF rfl (by simp only [pj_c1, decide_eq_false_iff_not, Int32.le_iff_toInt_le]; rw [Int32.lt_iff_toInt_lt] at hm2; omega) ?_
        refine pj_R_to (G, 44, [(6, .int (k + Int32.ofInt 1)), (5, .int s), (4, .int k), (7, .int s), (0, .ref ax), (1, .int one), (2, .int other), (3, .int n)], [.int ((Int8.ofInt 24).toInt32), .int (k + Int32.ofInt 1)], 0, 0) 44 9 (fun _ => rfl) ?_
        refine pj_R_icT 93 rfl rfl hgt ?_
        exact g2
      | false =>
        have hm2 := of_decide_eq_false hm
        obtain ⟨G1, g1, g2, g3⟩ := pj_turnX_end G ax o nn fx s0 one other n b m (k + Int32.ofInt 1) s hx ho hr
        refine ⟨G1, g1, ?_⟩
        refine pj_R_to (G, 69, [(7, .int s), (6, .int k), (5, .int m), (4, .int b), (0, .ref ax), (1, .int one), (2, .int other), (3, .int n)], [.int (Int32.ofInt (-1)), .int b], 0, 0) 69 3 (fun _ => rfl) ?_
        refine pj_R_icF rfl (decide_eq_false hb2) ?_
        refine pj_R_to (G, 76, [(7, .int s), (6, .int k), (5, .int m), (4, .int b), (0, .ref ax), (1, .int one), (2, .int other), (3, .int n)], [.int m, .int s], 0, 0) 76 3 (fun _ => rfl) ?_
        refine pj_R_icT 87 rfl rfl (by simp only [pj_c1, decide_eq_true_eq, Int32.le_iff_toInt_le]; rw [Int32.lt_iff_toInt_lt] at hm2; omega) ?_
        refine pj_R_to (G, 44, [(6, .int (k + Int32.ofInt 1)), (7, .int s), (5, .int m), (4, .int b), (0, .ref ax), (1, .int one), (2, .int other), (3, .int n)], [.int ((Int8.ofInt 24).toInt32), .int (k + Int32.ofInt 1)], 0, 0) 44 5 (fun _ => rfl) ?_
        refine pj_R_icT 93 rfl rfl hgt ?_
        exact g3
  | succ d ih =>
    intro k b m hd hk
    have hk24 : k.toInt ≤ 24 := by omega
    have hk2 : 24 - (k + Int32.ofInt 1).toInt = d := by
      rw [pj_inc24 hk24]
      omega
    have hk1 : 1 ≤ (k + Int32.ofInt 1).toInt := by
      rw [pj_inc24 hk24]
      omega
    have hk3 : 1 ≤ (k + Int32.ofInt 1).toInt ∧ (k + Int32.ofInt 1).toInt ≤ 24 := by omega
    obtain ⟨G1, g1, g2⟩ := ih (k + Int32.ofInt 1) (pj_tc b m k (pj_sm one other n k)).1 (pj_tc b m k (pj_sm one other n k)).2 hk2 hk1
    refine ⟨G1, g1, ?_⟩
    show pj_R _ _ _ _ _ (some (.int (pj_tcf one other n d (k + Int32.ofInt 1) (pj_tc b m k (pj_sm one other n k)).1 (pj_tc b m k (pj_sm one other n k)).2).1), G1, 0, 0)
    have g3 := fun t => pj_turnX_head G ax one other n _ _ _ t h3 hk3 g2
    clear g2 ih
    generalize ((some (Value.int (pj_tcf one other n d (k + Int32.ofInt 1) (pj_tc b m k (pj_sm one other n k)).1 (pj_tc b m k (pj_sm one other n k)).2).1), G1, 0, 0) : Option Value × pj_G × Nat × Nat) = r at *
    generalize pj_sm one other n k = s at *
    unfold pj_tc at g3
    cases hb : decide (b = Int32.ofInt (-1)) with
    | true =>
      have hb2 := of_decide_eq_true hb
      rw [hb] at g3
      refine pj_R_to (G, 69, [(7, .int s), (6, .int k), (5, .int m), (4, .int b), (0, .ref ax), (1, .int one), (2, .int other), (3, .int n)], [.int (Int32.ofInt (-1)), .int b], 0, 0) 69 3 (fun _ => rfl) ?_
      refine pj_R_icT 79 rfl rfl (decide_eq_true hb2) ?_
      refine pj_R_to (G, 40, [(6, .int (k + Int32.ofInt 1)), (5, .int s), (4, .int k), (7, .int s), (0, .ref ax), (1, .int one), (2, .int other), (3, .int n)], [], 0, 0) 40 7 (fun _ => rfl) ?_
      exact (g3 s).2.1
    | false =>
      have hb2 := of_decide_eq_false hb
      rw [hb] at g3
      cases hm : decide (m < s) with
      | true =>
        have hm2 := of_decide_eq_true hm
        rw [hm] at g3
        refine pj_R_to (G, 69, [(7, .int s), (6, .int k), (5, .int m), (4, .int b), (0, .ref ax), (1, .int one), (2, .int other), (3, .int n)], [.int (Int32.ofInt (-1)), .int b], 0, 0) 69 3 (fun _ => rfl) ?_
        refine pj_R_icF rfl (decide_eq_false hb2) ?_
        refine pj_R_to (G, 76, [(7, .int s), (6, .int k), (5, .int m), (4, .int b), (0, .ref ax), (1, .int one), (2, .int other), (3, .int n)], [.int m, .int s], 0, 0) 76 3 (fun _ => rfl) ?_
        refine pj_R_icF rfl (by simp only [pj_c1, decide_eq_false_iff_not, Int32.le_iff_toInt_le]; rw [Int32.lt_iff_toInt_lt] at hm2; omega) ?_
        refine pj_R_to (G, 40, [(6, .int (k + Int32.ofInt 1)), (5, .int s), (4, .int k), (7, .int s), (0, .ref ax), (1, .int one), (2, .int other), (3, .int n)], [], 0, 0) 40 7 (fun _ => rfl) ?_
        exact (g3 s).2.1
      | false =>
        have hm2 := of_decide_eq_false hm
        rw [hm] at g3
        refine pj_R_to (G, 69, [(7, .int s), (6, .int k), (5, .int m), (4, .int b), (0, .ref ax), (1, .int one), (2, .int other), (3, .int n)], [.int (Int32.ofInt (-1)), .int b], 0, 0) 69 3 (fun _ => rfl) ?_
        refine pj_R_icF rfl (decide_eq_false hb2) ?_
        refine pj_R_to (G, 76, [(7, .int s), (6, .int k), (5, .int m), (4, .int b), (0, .ref ax), (1, .int one), (2, .int other), (3, .int n)], [.int m, .int s], 0, 0) 76 3 (fun _ => rfl) ?_
        refine pj_R_icT 87 rfl rfl (by simp only [pj_c1, decide_eq_true_eq, Int32.le_iff_toInt_le]; rw [Int32.lt_iff_toInt_lt] at hm2; omega) ?_
        refine pj_R_to (G, 40, [(6, .int (k + Int32.ofInt 1)), (7, .int s), (5, .int m), (4, .int b), (0, .ref ax), (1, .int one), (2, .int other), (3, .int n)], [], 0, 0) 40 3 (fun _ => rfl) ?_
        exact (g3 s).2.2
theorem pj_turnX (G : pj_G) (ax o nn : Nat) (fx : List Value) (s0 one other n : Int32) (hx : pj_get G ax = some (.inr (11, fx))) (ho : fx[1]? = some (.ref o)) (hr : pj_row G o nn s0) (h1 : 0 ≤ one.toInt ∧ one.toInt ≤ 16777215) (h2 : 0 ≤ other.toInt ∧ other.toInt ≤ 16777215) (h3 : 1 ≤ n.toInt ∧ n.toInt ≤ 48) : ∃ G', pj_E (pj_cx 3) 153 [.ref ax, .int one, .int other, .int n] G (some (.int (pj_tcf one other n 23 (Int32.ofInt 1) (Int32.ofInt (-1)) (Int32.ofInt 0)).1), G', 0, 0) ∧ pj_same G G' [o, nn] := by
  obtain ⟨G1, g1, g2⟩ := pj_turnX_loop G ax o nn fx s0 one other n hx ho hr h3 23 (Int32.ofInt 1) (Int32.ofInt (-1)) (Int32.ofInt 0) (by rw [pj_li1]; rfl) (by rw [pj_li1]; decide)
  refine ⟨G1, ?_, g1⟩
  refine pj_E_R (M := pj_m153) rfl rfl (Nat.le_of_ble_eq_true rfl) ?_
  show pj_R _ _ _ _ (G, 0, [(0, .ref ax), (1, .int one), (2, .int other), (3, .int n)], [], 0, 0) _
  refine pj_R_to (G, 3, [(0, .ref ax), (1, .int one), (2, .int other), (3, .int n)], [.int ((Int8.ofInt 24).toInt32), .int one], 0, 0) 3 3 (fun _ => rfl) ?_
  refine pj_R_ca (pj_cx_mon _) (vs := [.int one, .int ((Int8.ofInt 24).toInt32)]) (S2 := [.int (Int32.ofInt 1)]) rfl (fun _ => rfl) ⟨Nat.le_of_ble_eq_true rfl, Nat.le_of_ble_eq_true rfl, rfl⟩ ⟨rfl, rfl, rfl⟩ (pj_E_up (by decide) (pj_within G one _ (pj_w24 h1))) ?_
  show pj_R _ _ _ _ (G, 6, [(0, .ref ax), (1, .int one), (2, .int other), (3, .int n)], [.int (Int32.ofInt 1)], 0, 0) _
  refine pj_R_ifF rfl (by decide) ?_
  refine pj_R_to (G, 12, [(0, .ref ax), (1, .int one), (2, .int other), (3, .int n)], [.int ((Int8.ofInt 24).toInt32), .int other], 0, 0) 12 3 (fun _ => rfl) ?_
  refine pj_R_ca (pj_cx_mon _) (vs := [.int other, .int ((Int8.ofInt 24).toInt32)]) (S2 := [.int (Int32.ofInt 1)]) rfl (fun _ => rfl) ⟨Nat.le_of_ble_eq_true rfl, Nat.le_of_ble_eq_true rfl, rfl⟩ ⟨rfl, rfl, rfl⟩ (pj_E_up (by decide) (pj_within G other _ (pj_w24 h2))) ?_
  show pj_R _ _ _ _ (G, 15, [(0, .ref ax), (1, .int one), (2, .int other), (3, .int n)], [.int (Int32.ofInt 1)], 0, 0) _
  refine pj_R_ifF rfl (by decide) ?_
  refine pj_R_to (G, 20, [(0, .ref ax), (1, .int one), (2, .int other), (3, .int n)], [.int (Int32.ofInt 1), .int n], 0, 0) 20 3 (fun _ => rfl) ?_
  refine pj_R_icF rfl (by simp only [pj_c1, decide_eq_true_eq, decide_eq_false_iff_not, Int32.lt_iff_toInt_lt, Int32.le_iff_toInt_le, pj_l1, pj_l24, pj_l48]; omega) ?_
  refine pj_R_to (G, 26, [(0, .ref ax), (1, .int one), (2, .int other), (3, .int n)], [.int ((Int8.ofInt 48).toInt32), .int n], 0, 0) 26 3 (fun _ => rfl) ?_
  refine pj_R_icT 31 rfl rfl (by simp only [pj_c1, decide_eq_true_eq, decide_eq_false_iff_not, Int32.lt_iff_toInt_lt, Int32.le_iff_toInt_le, pj_l1, pj_l24, pj_l48]; omega) ?_
  refine pj_R_to (G, 40, [(6, .int (Int32.ofInt 1)), (5, .int (Int32.ofInt 0)), (4, .int (Int32.ofInt (-1))), (0, .ref ax), (1, .int one), (2, .int other), (3, .int n)], [], 0, 0) 40 7 (fun _ => rfl) ?_
  exact (pj_turnX_head G ax one other n _ _ _ 0 h3 (by rw [pj_li1]; decide) g2).1
