/-! THE LAW UP TO ITS LOOP -/
def pj_i0 : pj_T := (([], true), 0, [(0, .ref 0)], [], 0, 0)
noncomputable def pj_t0 : pj_T := match pj_to (pj_exec pj_prog pj_nat 20000 40) 0 pj_x0 pj_law 23 40 pj_i0 with
  | some t => t
  | none => (([], true), 0, [], [], 0, 0)
set_option maxRecDepth 100000 in
theorem pj_t0_some : (pj_to (pj_exec pj_prog pj_nat 20000 40) 0 pj_x0 pj_law 23 40 pj_i0).isSome = true := by decide +kernel
theorem pj_t0_is : pj_to (pj_exec pj_prog pj_nat 20000 40) 0 pj_x0 pj_law 23 40 pj_i0 = some pj_t0 := by
  obtain ⟨t, ht⟩ := Option.isSome_iff_exists.mp pj_t0_some
  unfold pj_t0
  rw [ht]
theorem pj_sub_lc {f g : Nat} (hfg : f ≤ g) : ∀ {d : Nat}, d ≤ 1000 → pj_sub (pj_exec pj_prog pj_nat f d) (pj_lc g)
  | 0, _ => fun mi vs G r h => by cases (show (none : pj_V) = some r from h)
  | d + 1, hd => fun mi vs G r h => by
    obtain ⟨M, hM, -⟩ := pj_exec_s h
    have h1 := (List.getElem?_eq_some_iff.mp hM).1
    have h2 := pj_prog_len
    exact pj_lc_of hfg hd (by omega) h
theorem pj_t0_lc {g : Nat} (hg : 20000 ≤ g) (n0 : Nat) (xs : Nat → Int32) : pj_to (pj_lc g) n0 xs pj_law 23 40 pj_i0 = some pj_t0 :=
  pj_to_le (pj_sub_lc hg (by decide)) (Or.inr rfl) 40 40 _ _ (Nat.le_refl _) pj_t0_is
set_option maxRecDepth 100000 in
theorem pj_t0_facts : pj_t0.2.1 = 23 ∧ pj_t0.2.2.1.map (fun q => q.1) = [4, 3, 2, 1, 0] ∧ pj_t0.2.2.1[0]? = some (4, .int 0) ∧ pj_t0.2.2.1[4]? = some (0, .ref 0) ∧ pj_t0.2.2.2.1 = [] := by decide +kernel
set_option maxRecDepth 100000 in
/-- from the loop's head to the switch -/
theorem pj_head (call : pj_F) (xs : Nat → Int32) (G : pj_G) (a b c : Value) (mc ms : Nat) : pj_to call 6 xs pj_law 39 14 (G, 23, [(4, .int 0), (3, a), (2, b), (1, c), (0, .ref 0)], [], mc, ms) = some (G, 39, [(4, .int 0), (3, a), (2, b), (1, c), (0, .ref 0)], [.int (xs 0 &&& 63)], mc, ms) := rfl
