theorem pj_pure (L : Nat) (hL : L ≤ 2560) (xs : Nat → Int32) : ∃ (f : Nat) (G' : pj_G) (mc ms : Nat), pj_run (pj_lc f) (L + 1) xs pj_law f (([], true), 0, [(0, .ref 0)], [], 0, 0) = some (some (.int 1), G', mc, ms) ∧ mc ≤ 601024 ∧ ms ≤ 7293034 := by
  sorry
