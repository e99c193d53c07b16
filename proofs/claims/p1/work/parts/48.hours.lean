/-! HOURS, by hand -/
section PJR4
variable {C : Nat → pj_F} {xs : Nat → Int32} {M : pj_M} {r : Option Value × pj_G × Nat × Nat} {G : pj_G} {pc mc ms : Nat} {L : pj_L} {S : List Value}
theorem pj_R_mn {n0 idx len : Nat} {inf : List Nat} {z : Int} {x y v : Int32} (hf : pj_find M.2.2.2.2.2 pc = some (.invokestatic idx, len, inf, z)) (h11 : 11 = inf.getD 0 0) (hv : (if y < x then y else x) = v) (hS : (S.map Value.category).sum ≤ 8) (h2 : pj_R C n0 xs M (G, pc + 3, L, .int v :: S, mc, ms) r) : pj_R C n0 xs M (G, pc, L, .int y :: .int x :: S, mc, ms) r :=
  pj_R_st (t' := (G, pc + 3, L, .int v :: S, 0, 0)) hf (fun call => by
    show (if inf.getD 0 0 = 7 then (pj_cp G (.int y :: .int x :: S)).map (fun r => ((r.1, pc + 3, L, r.2, 0, 0) : pj_T)) else if 10 ≤ inf.getD 0 0 then (pj_mth (inf.getD 0 0) (.int y :: .int x :: S)).map (fun r => (G, pc + 3, L, r, 0, 0)) else (pj_inv call inf G (.int y :: .int x :: S)).map (fun r => (r.1, pc + 3, L, r.2.1, r.2.2.1, r.2.2.2))) = _
    rw [← h11, if_neg (by decide), if_pos (by decide)]
    show (if (S.map Value.category).sum ≤ 8 then some (Value.int (if y < x then y else x) :: S) else none).map (fun r => ((G, pc + 3, L, r, 0, 0) : pj_T)) = _
    rw [if_pos hS, hv]
    rfl) h2
theorem pj_R_il {len : Nat} {inf : List Nat} {z : Int} {a n : Nat} {f : Nat → Int32} {j : Int32} (hf : pj_find M.2.2.2.2.2 pc = some (.iaload, len, inf, z)) (hg : pj_get G a = some (.inl (0, n, .inl f))) (hj : ¬ (j < 0 ∨ n ≤ j.toNatClampNeg)) (h2 : pj_R C 0 xs M (G, pc + 1, L, .int (f j.toNatClampNeg) :: S, mc, ms) r) : pj_R C 0 xs M (G, pc, L, .int j :: .ref a :: S, mc, ms) r := by
  refine pj_R_st (t' := (G, pc + 1, L, .int (f j.toNatClampNeg) :: S, 0, 0)) hf (fun call => ?_) h2
  show (match pj_sc 0 xs (.int j :: .ref a :: S) with
    | some r => some (G, pc + 1, L, r, 0, 0)
    | none => (pj_rdi G (.int j :: .ref a :: S)).map (fun r => ((G, pc + 1, L, r, 0, 0) : pj_T))) = _
  rw [pj_sc_0]
  have e : pj_rdi G (.int j :: .ref a :: S) = some (.int (f j.toNatClampNeg) :: S) := by
    unfold pj_rdi
    simp only [hg]
    exact if_pos ⟨trivial, hj⟩
  rw [e]
  rfl
theorem pj_R_is {n0 len : Nat} {inf : List Nat} {z : Int} {a n : Nat} {f : Nat → Int32} {j x : Int32} (hf : pj_find M.2.2.2.2.2 pc = some (.iastore, len, inf, z)) (hg : pj_get G a = some (.inl (0, n, .inl f))) (hj : ¬ (j < 0 ∨ n ≤ j.toNatClampNeg)) (h2 : pj_R C n0 xs M (pj_put G a (.inl (0, n, .inl (upd f j.toNatClampNeg x))), pc + 1, L, S, mc, ms) r) : pj_R C n0 xs M (G, pc, L, .int x :: .int j :: .ref a :: S, mc, ms) r := by
  refine pj_R_st (t' := (pj_put G a (.inl (0, n, .inl (upd f j.toNatClampNeg x))), pc + 1, L, S, 0, 0)) hf (fun call => ?_) h2
  show (pj_asi G (.int x :: .int j :: .ref a :: S)).map (fun r => ((r.1, pc + 1, L, r.2, 0, 0) : pj_T)) = _
  have e : pj_asi G (.int x :: .int j :: .ref a :: S) = some (pj_put G a (.inl (0, n, .inl (upd f j.toNatClampNeg x))), S) := by
    unfold pj_asi
    simp only [hg]
    exact if_pos ⟨trivial, hj⟩
  rw [e]
  rfl
end PJR4
theorem pj_dif {G : pj_G} {a b : Nat} {c1 c2 : pj_C} (h1 : pj_get G a = some c1) (h2 : pj_get G b = some c2) (h : c1 ≠ c2) : a ≠ b := fun e => by
  rw [e, h2] at h1
  exact h (Option.some.inj h1).symm
theorem pj_s1 {G : pj_G} {a : Nat} {c c0 : pj_C} (h : pj_get G a = some c0) : pj_same G (pj_put G a c) [a] := fun b hb => pj_gn h (fun e => hb (by rw [e]; exact List.mem_cons_self))
theorem pj_same_w {G G' : pj_G} {X Y : List Nat} (h : pj_same G G' X) (hs : ∀ b ∈ X, b ∈ Y) : pj_same G G' Y := fun b hb => h b (fun z => hb (hs b z))
theorem pj_n1 {b x : Nat} (h : b ≠ x) : b ∉ [x] := fun z => by
  rcases List.mem_cons.mp z with e | z
  · exact h e
  · cases z
theorem pj_n2 {b x y : Nat} (h : b ≠ x) (h2 : b ≠ y) : b ∉ [x, y] := fun z => by
  rcases List.mem_cons.mp z with e | z
  · exact h e
  · exact pj_n1 h2 z
def pj_nwf : Nat → Int32 → Int32
  | 0, v => v
  | d + 1, v => pj_nwf d (v + Int32.ofInt 1)
theorem pj_comeE (G : pj_G) (va st : Nat) (fv fs : List Value) (hv : pj_get G va = some (.inr (10, fv))) (h2 : fv[2]? = some (.ref st)) (hs : pj_get G st = some (.inr (8, fs))) (h0 : fs[0]? = some (.int 0)) : pj_E (pj_cx 1) 106 [.ref va] G (none, G, 0, 0) := by
  refine pj_E_R (M := pj_m106) rfl rfl (Nat.le_of_ble_eq_true rfl) ?_
  show pj_R _ _ _ _ (G, 0, [(0, .ref va)], [], 0, 0) _
  refine pj_R_to (G, 4, [(1, .int (Int32.ofInt 0)), (0, .ref va)], [.ref va, .int (Int32.ofInt 0)], 0, 0) 4 5 (fun _ => rfl) ?_
  refine pj_R_gf rfl hv h2 ?_
  refine pj_R_gf rfl hs h0 ?_
  refine pj_R_icT 72 rfl rfl (by decide) ?_
  exact pj_R_rt rfl rfl
theorem pj_endLE (G : pj_G) (va st : Nat) (fv fs : List Value) (hv : pj_get G va = some (.inr (10, fv))) (h2 : fv[2]? = some (.ref st)) (hs : pj_get G st = some (.inr (8, fs))) (h0 : fs[0]? = some (.int 0)) : pj_E (pj_cx 1) 107 [.ref va] G (none, G, 0, 0) := by
  refine pj_E_R (M := pj_m107) rfl rfl (Nat.le_of_ble_eq_true rfl) ?_
  show pj_R _ _ _ _ (G, 0, [(0, .ref va)], [], 0, 0) _
  refine pj_R_to (G, 4, [(1, .int (Int32.ofInt 0)), (0, .ref va)], [.ref va, .int (Int32.ofInt 0)], 0, 0) 4 5 (fun _ => rfl) ?_
  refine pj_R_gf rfl hv h2 ?_
  refine pj_R_gf rfl hs h0 ?_
  refine pj_R_icT 98 rfl rfl (by decide) ?_
  exact pj_R_rt rfl rfl
theorem pj_ph_loop (va st : Nat) (fv : List Value) (h2 : fv[2]? = some (.ref st)) (n : Int32) : ∀ (d : Nat) (i v : Int32) (G : pj_G) (fs : List Value), n.toInt - i.toInt = (d : Nat) → pj_get G va = some (.inr (10, fv)) → pj_get G st = some (.inr (8, fs)) → fs.length = 9 → fs[0]? = some (.int 0) → fs[7]? = some (.int v) → ∃ (G' : pj_G) (fs' : List Value), pj_R (pj_cx 1) 0 pj_x0 pj_m105 (G, 12, [(2, .int i), (0, .ref va), (1, .int n)], [], 0, 0) (none, G', 0, 0) ∧ pj_get G' st = some (.inr (8, fs')) ∧ fs'[7]? = some (.int (pj_nwf d v)) ∧ pj_same G G' [st]
  | 0, i, v, G, fs, hd, hv, hs, hl, h0, h7 => by
    refine ⟨G, fs, ?_, hs, h7, fun b hb => rfl⟩
    refine pj_R_to (G, 14, [(2, .int i), (0, .ref va), (1, .int n)], [.int n, .int i], 0, 0) 14 3 (fun _ => rfl) ?_
    refine pj_R_icT 44 rfl rfl (by simp only [pj_c1, decide_eq_true_eq, Int32.le_iff_toInt_le]; omega) ?_
    exact pj_R_rt rfl rfl
  | d + 1, i, v, G, fs, hd, hv, hs, hl, h0, h7 => by
    have hne : va ≠ st := pj_dif hv hs (fun h => by cases h)
    have hv1 : pj_get (pj_put G st (.inr (8, fs.set 7 (.int (v + Int32.ofInt 1))))) va = some (.inr (10, fv)) := by rw [pj_gn hs hne, hv]
    have hs1 : pj_get (pj_put G st (.inr (8, fs.set 7 (.int (v + Int32.ofInt 1))))) st = some (.inr (8, fs.set 7 (.int (v + Int32.ofInt 1)))) := pj_gp hs
    have h01 : (fs.set 7 (.int (v + Int32.ofInt 1)))[0]? = some (.int 0) := by rw [List.getElem?_set_ne (by decide), h0]
    obtain ⟨G', fs', k1, k2, k3, k4⟩ := pj_ph_loop va st fv h2 n d (i + Int32.ofInt 1) (v + Int32.ofInt 1) _ _ (by rw [pj_inc (show i.toInt < n.toInt by omega)]; omega) hv1 hs1 (by rw [List.length_set, hl]) h01 (by rw [List.getElem?_set_self (by rw [hl]; decide)])
    refine ⟨G', fs', ?_, k2, k3, pj_same_t (pj_s1 hs) k4⟩
    refine pj_R_to (G, 14, [(2, .int i), (0, .ref va), (1, .int n)], [.int n, .int i], 0, 0) 14 3 (fun _ => rfl) ?_
    refine pj_R_icF rfl (by simp only [pj_c1, decide_eq_false_iff_not, Int32.le_iff_toInt_le]; omega) ?_
    refine pj_R_to (G, 18, [(2, .int i), (0, .ref va), (1, .int n)], [.ref va], 0, 0) 18 2 (fun _ => rfl) ?_
    refine pj_R_gf rfl hv h2 ?_
    refine pj_R_to (G, 22, [(2, .int i), (0, .ref va), (1, .int n)], [.ref st, .ref st], 0, 0) 22 2 (fun _ => rfl) ?_
    refine pj_R_gf rfl hs h7 ?_
    refine pj_R_to (G, 27, [(2, .int i), (0, .ref va), (1, .int n)], [.int (v + (Int32.ofInt 1)), .ref st], 0, 0) 27 3 (fun _ => rfl) ?_
    refine pj_R_pf rfl hs (by show 7 < fs.length; rw [hl]; decide) rfl ?_
    show pj_R _ _ _ _ (pj_put G st (.inr (8, fs.set 7 (.int (v + Int32.ofInt 1)))), 30, [(2, .int i), (0, .ref va), (1, .int n)], [], 0, 0) _
    refine pj_R_to (pj_put G st (.inr (8, fs.set 7 (.int (v + Int32.ofInt 1)))), 31, [(2, .int i), (0, .ref va), (1, .int n)], [.ref va], 0, 0) 31 2 (fun _ => rfl) ?_
    refine pj_R_ca (pj_cx_mon _) (vs := [.ref va]) (S2 := []) rfl (fun _ => rfl) ⟨Nat.le_of_ble_eq_true rfl, Nat.le_of_ble_eq_true rfl, pj_rcvI hv1⟩ ⟨rfl, rfl, rfl⟩ (pj_comeE _ va st fv _ hv1 h2 hs1 h01) ?_
    show pj_R _ _ _ _ (pj_put G st (.inr (8, fs.set 7 (.int (v + Int32.ofInt 1)))), 34, [(2, .int i), (0, .ref va), (1, .int n)], [], 0, 0) _
    refine pj_R_to (pj_put G st (.inr (8, fs.set 7 (.int (v + Int32.ofInt 1)))), 35, [(2, .int i), (0, .ref va), (1, .int n)], [.ref va], 0, 0) 35 2 (fun _ => rfl) ?_
    refine pj_R_ca (pj_cx_mon _) (vs := [.ref va]) (S2 := []) rfl (fun _ => rfl) ⟨Nat.le_of_ble_eq_true rfl, Nat.le_of_ble_eq_true rfl, pj_rcvI hv1⟩ ⟨rfl, rfl, rfl⟩ (pj_endLE _ va st fv _ hv1 h2 hs1 h01) ?_
    show pj_R _ _ _ _ (pj_put G st (.inr (8, fs.set 7 (.int (v + Int32.ofInt 1)))), 38, [(2, .int i), (0, .ref va), (1, .int n)], [], 0, 0) _
    refine pj_R_to (pj_put G st (.inr (8, fs.set 7 (.int (v + Int32.ofInt 1)))), 12, [(2, .int (i + Int32.ofInt 1)), (0, .ref va), (1, .int n)], [], 0, 0) 12 3 (fun _ => rfl) ?_
    exact k1
theorem pj_passE (G : pj_G) (va st : Nat) (fv fs : List Value) (v n : Int32) (hn : 0 ≤ n.toInt) (hv : pj_get G va = some (.inr (10, fv))) (hlv : fv.length = 9) (h2 : fv[2]? = some (.ref st)) (hs : pj_get G st = some (.inr (8, fs))) (hl : fs.length = 9) (h0 : fs[0]? = some (.int 0)) (h7 : fs[7]? = some (.int v)) : ∃ (G' : pj_G) (fv' fs' : List Value), pj_E (pj_cx 2) 105 [.ref va, .int n] G (none, G', 0, 0) ∧ pj_get G' va = some (.inr (10, fv')) ∧ fv'[2]? = some (.ref st) ∧ fv'[7]? = some (.int (Int32.ofInt 0)) ∧ fv'[8]? = some (.int (Int32.ofInt 0)) ∧ pj_get G' st = some (.inr (8, fs')) ∧ fs'[7]? = some (.int (pj_nwf n.toInt.toNat v)) ∧ pj_same G G' [va, st] := by
  have hne : va ≠ st := pj_dif hv hs (fun h => by cases h)
  have e1 : pj_put (pj_put G va (.inr (10, fv.set 7 (.int (Int32.ofInt 0))))) va (.inr (10, (fv.set 7 (.int (Int32.ofInt 0))).set 8 (.int (Int32.ofInt 0)))) = pj_put G va (.inr (10, (fv.set 7 (.int (Int32.ofInt 0))).set 8 (.int (Int32.ofInt 0)))) := pj_pp
  have hva : pj_get (pj_put G va (.inr (10, fv.set 7 (.int (Int32.ofInt 0))))) va = some (.inr (10, fv.set 7 (.int (Int32.ofInt 0)))) := pj_gp hv
  have hvb : pj_get (pj_put G va (.inr (10, (fv.set 7 (.int (Int32.ofInt 0))).set 8 (.int (Int32.ofInt 0))))) va = some (.inr (10, (fv.set 7 (.int (Int32.ofInt 0))).set 8 (.int (Int32.ofInt 0)))) := pj_gp hv
  have hsb : pj_get (pj_put G va (.inr (10, (fv.set 7 (.int (Int32.ofInt 0))).set 8 (.int (Int32.ofInt 0))))) st = some (.inr (8, fs)) := by rw [pj_gn hv (Ne.symm hne), hs]
  have b2 : ((fv.set 7 (.int (Int32.ofInt 0))).set 8 (.int (Int32.ofInt 0)))[2]? = some (.ref st) := by rw [List.getElem?_set_ne (by decide), List.getElem?_set_ne (by decide), h2]
  have b7 : ((fv.set 7 (.int (Int32.ofInt 0))).set 8 (.int (Int32.ofInt 0)))[7]? = some (.int (Int32.ofInt 0)) := by rw [List.getElem?_set_ne (by decide), List.getElem?_set_self (by rw [hlv]; decide)]
  have b8 : ((fv.set 7 (.int (Int32.ofInt 0))).set 8 (.int (Int32.ofInt 0)))[8]? = some (.int (Int32.ofInt 0)) := by rw [List.getElem?_set_self (by rw [List.length_set, hlv]; decide)]
  obtain ⟨G', fs', k1, k2, k3, k4⟩ := pj_ph_loop va st _ b2 n n.toInt.toNat (Int32.ofInt 0) v _ fs (by rw [pj_li0]; omega) hvb hsb hl h0 h7
  refine ⟨G', _, fs', ?_, by rw [k4 va (pj_n1 hne), hvb], b2, b7, b8, k2, k3, ?_⟩
  rotate_left
  · intro b hb
    have q1 : b ≠ va := fun e => hb (by rw [e]; exact List.mem_cons_self)
    have q2 : b ≠ st := fun e => hb (by rw [e]; exact List.mem_cons_of_mem _ List.mem_cons_self)
    rw [k4 b (pj_n1 q2), pj_gn hv q1]
  refine pj_E_R (M := pj_m105) rfl rfl (Nat.le_of_ble_eq_true rfl) ?_
  show pj_R _ _ _ _ (G, 0, [(0, .ref va), (1, .int n)], [], 0, 0) _
  refine pj_R_to (G, 2, [(0, .ref va), (1, .int n)], [.int (Int32.ofInt 0), .ref va], 0, 0) 2 3 (fun _ => rfl) ?_
  refine pj_R_pf rfl hv (by show 7 < fv.length; rw [hlv]; decide) rfl ?_
  show pj_R _ _ _ _ (pj_put G va (.inr (10, fv.set 7 (.int (Int32.ofInt 0)))), 5, [(0, .ref va), (1, .int n)], [], 0, 0) _
  refine pj_R_to (pj_put G va (.inr (10, fv.set 7 (.int (Int32.ofInt 0)))), 7, [(0, .ref va), (1, .int n)], [.int (Int32.ofInt 0), .ref va], 0, 0) 7 3 (fun _ => rfl) ?_
  refine pj_R_pf rfl hva (by show 8 < _; rw [List.length_set, hlv]; decide) rfl ?_
  show pj_R _ _ _ _ (pj_put (pj_put G va (.inr (10, fv.set 7 (.int (Int32.ofInt 0))))) va (.inr (10, (fv.set 7 (.int (Int32.ofInt 0))).set 8 (.int (Int32.ofInt 0)))), 10, [(0, .ref va), (1, .int n)], [], 0, 0) _
  rw [e1]
  refine pj_R_to (pj_put G va (.inr (10, (fv.set 7 (.int (Int32.ofInt 0))).set 8 (.int (Int32.ofInt 0)))), 12, [(2, .int (Int32.ofInt 0)), (0, .ref va), (1, .int n)], [], 0, 0) 12 3 (fun _ => rfl) ?_
  exact k1
theorem pj_holdE (G : pj_G) (me rg : Nat) (fm : List Value) (y : vp_A) (nx sz : Int32) (hm : pj_get G me = some (.inr (4, fm))) (hl : fm.length = 5) (h0 : fm[0]? = some (.ref rg)) (h1 : fm[1]? = some (.int nx)) (h2 : fm[2]? = some (.int sz)) (hg : pj_get G rg = some (.inl (3, y))) (hy : ¬ Int32.ofNat y.1 = 0) : ∃ G' : pj_G, pj_E (pj_cx 1) 34 [.ref me, .int (Int32.ofInt 1)] G (none, G', 0, 0) ∧ pj_same G G' [me] := by
  have m1 : pj_get (pj_put G me (.inr (4, fm.set 1 (.int (nx + Int32.ofInt 1 - (nx + Int32.ofInt 1) / Int32.ofNat y.1 * Int32.ofNat y.1))))) me = some (.inr (4, fm.set 1 (.int (nx + Int32.ofInt 1 - (nx + Int32.ofInt 1) / Int32.ofNat y.1 * Int32.ofNat y.1)))) := pj_gp hm
  have m2 : (fm.set 1 (.int (nx + Int32.ofInt 1 - (nx + Int32.ofInt 1) / Int32.ofNat y.1 * Int32.ofNat y.1)))[2]? = some (.int sz) := by rw [List.getElem?_set_ne (by decide), h2]
  refine ⟨pj_put (pj_put G me (.inr (4, fm.set 1 (.int (nx + Int32.ofInt 1 - (nx + Int32.ofInt 1) / Int32.ofNat y.1 * Int32.ofNat y.1))))) me (.inr (4, (fm.set 1 (.int (nx + Int32.ofInt 1 - (nx + Int32.ofInt 1) / Int32.ofNat y.1 * Int32.ofNat y.1))).set 2 (.int (if (Int8.ofInt 15).toInt32 < sz + Int32.ofInt 1 then (Int8.ofInt 15).toInt32 else sz + Int32.ofInt 1)))), ?_, pj_same_t (pj_s1 hm) (pj_s1 m1)⟩
  refine pj_E_R (M := pj_m34) rfl rfl (Nat.le_of_ble_eq_true rfl) ?_
  show pj_R _ _ _ _ (G, 0, [(0, .ref me), (1, .int (Int32.ofInt 1))], [], 0, 0) _
  refine pj_R_to (G, 1, [(0, .ref me), (1, .int (Int32.ofInt 1))], [.int (Int32.ofInt 1)], 0, 0) 1 2 (fun _ => rfl) ?_
  refine pj_R_ifF rfl (by decide) ?_
  refine pj_R_to (G, 6, [(0, .ref me), (1, .int (Int32.ofInt 1))], [.ref me, .ref me], 0, 0) 6 3 (fun _ => rfl) ?_
  refine pj_R_gf rfl hm h1 ?_
  refine pj_R_to (G, 12, [(0, .ref me), (1, .int (Int32.ofInt 1))], [.ref me, .int (nx + (Int32.ofInt 1)), .ref me], 0, 0) 12 4 (fun _ => rfl) ?_
  refine pj_R_gf rfl hm h0 ?_
  refine pj_R_al rfl hg (by decide) ?_
  refine pj_R_rm rfl hy ?_
  refine pj_R_pf rfl hm (by show 1 < fm.length; rw [hl]; decide) rfl ?_
  show pj_R _ _ _ _ (pj_put G me (.inr (4, fm.set 1 (.int (nx + Int32.ofInt 1 - (nx + Int32.ofInt 1) / Int32.ofNat y.1 * Int32.ofNat y.1)))), 20, [(0, .ref me), (1, .int (Int32.ofInt 1))], [], 0, 0) _
  refine pj_R_to (pj_put G me (.inr (4, fm.set 1 (.int (nx + Int32.ofInt 1 - (nx + Int32.ofInt 1) / Int32.ofNat y.1 * Int32.ofNat y.1)))), 22, [(0, .ref me), (1, .int (Int32.ofInt 1))], [.ref me, .ref me], 0, 0) 22 3 (fun _ => rfl) ?_
  refine pj_R_gf rfl m1 m2 ?_
  refine pj_R_to (pj_put G me (.inr (4, fm.set 1 (.int (nx + Int32.ofInt 1 - (nx + Int32.ofInt 1) / Int32.ofNat y.1 * Int32.ofNat y.1)))), 29, [(0, .ref me), (1, .int (Int32.ofInt 1))], [.int ((Int8.ofInt 15).toInt32), .int (sz + (Int32.ofInt 1)), .ref me], 0, 0) 29 4 (fun _ => rfl) ?_
  refine pj_R_mn (v := (if (Int8.ofInt 15).toInt32 < sz + Int32.ofInt 1 then (Int8.ofInt 15).toInt32 else sz + Int32.ofInt 1)) rfl rfl rfl (Nat.le_of_ble_eq_true rfl) ?_
  refine pj_R_pf rfl m1 (by show 2 < _; rw [List.length_set, hl]; decide) rfl ?_
  show pj_R _ _ _ _ (pj_put (pj_put G me (.inr (4, fm.set 1 (.int (nx + Int32.ofInt 1 - (nx + Int32.ofInt 1) / Int32.ofNat y.1 * Int32.ofNat y.1))))) me (.inr (4, (fm.set 1 (.int (nx + Int32.ofInt 1 - (nx + Int32.ofInt 1) / Int32.ofNat y.1 * Int32.ofNat y.1))).set 2 (.int (if (Int8.ofInt 15).toInt32 < sz + Int32.ofInt 1 then (Int8.ofInt 15).toInt32 else sz + Int32.ofInt 1)))), 35, [(0, .ref me), (1, .int (Int32.ofInt 1))], [], 0, 0) _
  exact pj_R_rt rfl rfl
theorem pj_l99 : ((Int8.ofInt 99).toInt32).toInt = 99 := by decide
theorem pj_hoursX (G Gn : pj_G) (ax va0 st0 me0 o nn va st me rg : Nat) (fx0 fv0 fm0 fx fv fs fm : List Value) (y : vp_A) (s0 v n nx sz : Int32) (hn : 0 ≤ n.toInt ∧ n.toInt ≤ 99)
    (a1 : pj_get G ax = some (.inr (11, fx0))) (a2 : fx0[2]? = some (.ref va0)) (a3 : fx0[7]? = some (.ref me0)) (a4 : pj_get G va0 = some (.inr (10, fv0))) (a5 : fv0[2]? = some (.ref st0)) (a6 : pj_get G me0 = some (.inr (4, fm0))) (a7 : pj_E (pj_cx 40) 33 [.ref me0, .ref st0] G (none, Gn, 0, 0))
    (hx : pj_get Gn ax = some (.inr (11, fx))) (x1 : fx[1]? = some (.ref o)) (x2 : fx[2]? = some (.ref va)) (x7 : fx[7]? = some (.ref me)) (hv : pj_get Gn va = some (.inr (10, fv))) (hlv : fv.length = 9) (v2 : fv[2]? = some (.ref st)) (hs : pj_get Gn st = some (.inr (8, fs))) (hls : fs.length = 9) (t0 : fs[0]? = some (.int 0)) (t7 : fs[7]? = some (.int v))
    (hm : pj_get Gn me = some (.inr (4, fm))) (hlm : fm.length = 5) (m0 : fm[0]? = some (.ref rg)) (m1 : fm[1]? = some (.int nx)) (m2 : fm[2]? = some (.int sz)) (hg : pj_get Gn rg = some (.inl (3, y))) (hy : ¬ Int32.ofNat y.1 = 0) (hr : pj_row Gn o nn s0) : ∃ G' : pj_G, pj_E (pj_cx 41) 131 [.ref ax, .int n] G (some (.int (pj_nwf n.toInt.toNat v)), G', 0, 0) ∧ pj_same Gn G' [va, st, me, o, nn] := by
  have d1 : ax ≠ va := pj_dif hx hv (fun h => by cases h)
  have d2 : ax ≠ st := pj_dif hx hs (fun h => by cases h)
  have d3 : ax ≠ me := pj_dif hx hm (fun h => by cases h)
  have d4 : me ≠ va := pj_dif hm hv (fun h => by cases h)
  have d5 : me ≠ st := pj_dif hm hs (fun h => by cases h)
  have d6 : rg ≠ va := pj_dif hg hv (fun h => by cases h)
  have d7 : rg ≠ st := pj_dif hg hs (fun h => by cases h)
  have d8 : va ≠ me := Ne.symm d4
  have d9 : st ≠ me := Ne.symm d5
  obtain ⟨hro, f, hrn⟩ := hr
  have d10 : o ≠ va := pj_dif hro hv (fun h => by cases h)
  have d11 : o ≠ st := pj_dif hro hs (fun h => by cases h)
  have d12 : o ≠ me := pj_dif hro hm (fun h => by cases h)
  have d13 : nn ≠ va := pj_dif hrn hv (fun h => by cases h)
  have d14 : nn ≠ st := pj_dif hrn hs (fun h => by cases h)
  have d15 : nn ≠ me := pj_dif hrn hm (fun h => by cases h)
  have d16 : ax ≠ o := pj_dif hx hro (fun h => by cases h)
  have d17 : ax ≠ nn := pj_dif hx hrn (fun h => by cases h)
  obtain ⟨G1, fv1, fs1, e1, g1, g2, g3, g4, g5, g6, q1⟩ := pj_passE Gn va st fv fs v n hn.1 hv hlv v2 hs hls t0 t7
  obtain ⟨G2, e2, q2⟩ := pj_holdE G1 me rg fm y nx sz (by rw [q1 me (pj_n2 d4 d5), hm]) hlm m0 m1 m2 (by rw [q1 rg (pj_n2 d6 d7), hg]) hy
  have hr2 : pj_row G2 o nn s0 := ⟨by rw [q2 o (pj_n1 d12), q1 o (pj_n2 d10 d11), hro], f, by rw [q2 nn (pj_n1 d15), q1 nn (pj_n2 d13 d14), hrn]⟩
  obtain ⟨G3, e3, q3⟩ := pj_tellTwo G2 o nn s0 (Int32.ofInt 0).toInt64 (Int32.ofInt 0).toInt64 hr2
  have x1' : pj_get G1 ax = some (.inr (11, fx)) := by rw [q1 ax (pj_n2 d1 d2), hx]
  have x2' : pj_get G2 ax = some (.inr (11, fx)) := by rw [q2 ax (pj_n1 d3), x1']
  have x3' : pj_get G3 ax = some (.inr (11, fx)) := by rw [q3 ax (pj_n2 d16 d17), x2']
  have w2 : pj_get G2 va = some (.inr (10, fv1)) := by rw [q2 va (pj_n1 d8), g1]
  have w3 : pj_get G3 va = some (.inr (10, fv1)) := by rw [q3 va (pj_n2 (Ne.symm d10) (Ne.symm d13)), w2]
  have u3 : pj_get G3 st = some (.inr (8, fs1)) := by rw [q3 st (pj_n2 (Ne.symm d11) (Ne.symm d14)), q2 st (pj_n1 d9), g5]
  have hm1 : pj_get G1 me = some (.inr (4, fm)) := by rw [q1 me (pj_n2 d4 d5), hm]
  refine ⟨G3, ?_, ?_⟩
  rotate_left
  · refine pj_same_t (pj_same_w q1 (fun b hb => ?_)) (pj_same_t (pj_same_w q2 (fun b hb => ?_)) (pj_same_w q3 (fun b hb => ?_)))
    · simp only [List.mem_cons, List.not_mem_nil, or_false] at hb ⊢
      omega
    · simp only [List.mem_cons, List.not_mem_nil, or_false] at hb ⊢
      omega
    · simp only [List.mem_cons, List.not_mem_nil, or_false] at hb ⊢
      omega
  refine pj_E_R (M := pj_m131) rfl rfl (Nat.le_of_ble_eq_true rfl) ?_
  show pj_R _ _ _ _ (G, 0, [(0, .ref ax), (1, .int n)], [], 0, 0) _
  refine pj_R_to (G, 1, [(0, .ref ax), (1, .int n)], [.int n], 0, 0) 1 2 (fun _ => rfl) ?_
  refine pj_R_ifF rfl (by simp only [pj_c1, decide_eq_false_iff_not, Int32.lt_iff_toInt_lt, pj_lz0]; omega) ?_
  refine pj_R_to (G, 7, [(0, .ref ax), (1, .int n)], [.int ((Int8.ofInt 99).toInt32), .int n], 0, 0) 7 3 (fun _ => rfl) ?_
  refine pj_R_icT 12 rfl rfl (by simp only [pj_c1, decide_eq_true_eq, Int32.le_iff_toInt_le, pj_l99]; omega) ?_
  refine pj_R_to (G, 13, [(0, .ref ax), (1, .int n)], [.ref ax], 0, 0) 13 2 (fun _ => rfl) ?_
  refine pj_R_gf rfl a1 a3 ?_
  refine pj_R_to (G, 17, [(0, .ref ax), (1, .int n)], [.ref ax, .ref me0], 0, 0) 17 2 (fun _ => rfl) ?_
  refine pj_R_gf rfl a1 a2 ?_
  refine pj_R_gf rfl a4 a5 ?_
  refine pj_R_ca (pj_cx_mon _) (vs := [.ref me0, .ref st0]) (S2 := []) rfl (fun _ => rfl) ⟨Nat.le_of_ble_eq_true rfl, Nat.le_of_ble_eq_true rfl, pj_rcvI a6⟩ ⟨rfl, rfl, rfl⟩ a7 ?_
  show pj_R _ _ _ _ (Gn, 26, [(0, .ref ax), (1, .int n)], [], 0, 0) _
  refine pj_R_to (Gn, 27, [(0, .ref ax), (1, .int n)], [.ref ax], 0, 0) 27 2 (fun _ => rfl) ?_
  refine pj_R_gf rfl hx x2 ?_
  refine pj_R_to (Gn, 31, [(0, .ref ax), (1, .int n)], [.int n, .ref va], 0, 0) 31 2 (fun _ => rfl) ?_
  refine pj_R_ca (pj_cx_mon _) (vs := [.ref va, .int n]) (S2 := []) rfl (fun _ => rfl) ⟨Nat.le_of_ble_eq_true rfl, Nat.le_of_ble_eq_true rfl, pj_rcvI hv⟩ ⟨rfl, rfl, rfl⟩ (pj_E_up (by decide) e1) ?_
  show pj_R _ _ _ _ (G1, 34, [(0, .ref ax), (1, .int n)], [], 0, 0) _
  refine pj_R_to (G1, 35, [(0, .ref ax), (1, .int n)], [.ref ax], 0, 0) 35 2 (fun _ => rfl) ?_
  refine pj_R_gf rfl x1' x7 ?_
  refine pj_R_to (G1, 39, [(0, .ref ax), (1, .int n)], [.int (Int32.ofInt 1), .ref me], 0, 0) 39 2 (fun _ => rfl) ?_
  refine pj_R_ca (pj_cx_mon _) (vs := [.ref me, .int (Int32.ofInt 1)]) (S2 := []) rfl (fun _ => rfl) ⟨Nat.le_of_ble_eq_true rfl, Nat.le_of_ble_eq_true rfl, pj_rcvI hm1⟩ ⟨rfl, rfl, rfl⟩ (pj_E_up (by decide) e2) ?_
  show pj_R _ _ _ _ (G2, 42, [(0, .ref ax), (1, .int n)], [], 0, 0) _
  refine pj_R_to (G2, 43, [(0, .ref ax), (1, .int n)], [.ref ax], 0, 0) 43 2 (fun _ => rfl) ?_
  refine pj_R_gf rfl x2' x1 ?_
  refine pj_R_to (G2, 47, [(0, .ref ax), (1, .int n)], [.ref ax, .ref o], 0, 0) 47 2 (fun _ => rfl) ?_
  refine pj_R_gf rfl x2' x2 ?_
  refine pj_R_gf rfl w2 g3 ?_
  refine pj_R_to (G2, 55, [(0, .ref ax), (1, .int n)], [.ref ax, .long ((Int32.ofInt 0).toInt64), .ref o], 0, 0) 55 3 (fun _ => rfl) ?_
  refine pj_R_gf rfl x2' x2 ?_
  refine pj_R_gf rfl w2 g4 ?_
  refine pj_R_to (G2, 62, [(0, .ref ax), (1, .int n)], [.long ((Int32.ofInt 0).toInt64), .long ((Int32.ofInt 0).toInt64), .ref o], 0, 0) 62 2 (fun _ => rfl) ?_
  refine pj_R_ca (pj_cx_mon _) (vs := [.ref o, .long ((Int32.ofInt 0).toInt64), .long ((Int32.ofInt 0).toInt64)]) (S2 := []) rfl (fun _ => rfl) ⟨Nat.le_of_ble_eq_true rfl, Nat.le_of_ble_eq_true rfl, pj_rcvI hr2.1⟩ ⟨rfl, rfl, rfl⟩ (pj_E_up (by decide) e3) ?_
  show pj_R _ _ _ _ (G3, 65, [(0, .ref ax), (1, .int n)], [], 0, 0) _
  refine pj_R_to (G3, 66, [(0, .ref ax), (1, .int n)], [.ref ax], 0, 0) 66 2 (fun _ => rfl) ?_
  refine pj_R_gf rfl x3' x2 ?_
  refine pj_R_gf rfl w3 g2 ?_
  refine pj_R_gf rfl u3 g6 ?_
  exact pj_R_rt rfl rfl
