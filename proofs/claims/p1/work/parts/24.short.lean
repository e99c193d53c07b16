theorem pj_t0_shape : ∃ a b c : Value, pj_t0 = (pj_t0.1, 23, [(4, .int 0), (3, a), (2, b), (1, c), (0, .ref 0)], [], pj_t0.2.2.2.2.1, pj_t0.2.2.2.2.2) := by
  obtain ⟨h1, h2, h3, h4, h5⟩ := pj_t0_facts
  generalize pj_t0 = t at *
  obtain ⟨G, pc, L, S, mc, ms⟩ := t
  dsimp only at *
  subst h1 h5
  match L, h2, h3, h4 with
  | [(k4, v4), (k3, v3), (k2, v2), (k1, v1), (k0, v0)], h2, h3, h4 =>
    simp only [List.map_cons, List.map_nil, List.cons.injEq, and_true] at h2
    obtain ⟨rfl, rfl, rfl, rfl, rfl⟩ := h2
    have e3 : ((4, v4) : Nat × Value) = (4, .int 0) := Option.some.inj h3
    have e4 : ((0, v0) : Nat × Value) = (0, .ref 0) := Option.some.inj h4
    cases e3
    cases e4
    exact ⟨v3, v2, v1, rfl⟩
set_option maxRecDepth 100000 in
theorem pj_t0_small : pj_t0.2.2.2.2.1 ≤ 300000 ∧ pj_t0.2.2.2.2.2 ≤ 3000000 := by decide +kernel
set_option maxRecDepth 100000 in
/-- a script too short for a call -/
theorem pj_end0 (L : Nat) (hL : L ≤ 4) (call : pj_F) (xs : Nat → Int32) (G : pj_G) (a b c : Value) (mc ms : Nat) : pj_run call (L + 1) xs pj_law 14 (G, 23, [(4, .int 0), (3, a), (2, b), (1, c), (0, .ref 0)], [], mc, ms) = some (some (.int 1), G, mc, ms) := by
  match L, hL with
  | 0, _ => rfl
  | 1, _ => rfl
  | 2, _ => rfl
  | 3, _ => rfl
  | 4, _ => rfl
theorem pj_short (L : Nat) (hL : L ≤ 4) (xs : Nat → Int32) : ∃ (f : Nat) (G' : pj_G) (mc ms : Nat), pj_run (pj_lc f) (L + 1) xs pj_law f pj_i0 = some (some (.int 1), G', mc, ms) ∧ mc ≤ 600002 ∧ ms ≤ 7302232 := by
  obtain ⟨a, b, c, e⟩ := pj_t0_shape
  have h1 := pj_t0_lc (g := 20000) (Nat.le_refl _) (L + 1) xs
  have h2 := pj_end0 L hL (pj_lc 20000) xs pj_t0.1 a b c pj_t0.2.2.2.2.1 pj_t0.2.2.2.2.2
  rw [← e] at h2
  have h3 := pj_to_run 40 14 _ _ _ h1 h2
  refine ⟨20000, _, _, _, pj_run_le (fun _ _ _ _ h => h) (Or.inl ⟨rfl, rfl⟩) 54 20000 _ _ (by decide) h3, ?_, ?_⟩
  · have := pj_t0_small.1
    omega
  · have := pj_t0_small.2
    omega
