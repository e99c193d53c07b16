/-- THE LAW'S PURE RUN, for every script -/
theorem pj_pure (L : Nat) (hL : L ≤ 2560) (xs : Nat → Int32) : ∃ (f : Nat) (G' : pj_G) (mc ms : Nat), pj_run (pj_lz f) (L + 1) xs pj_law f (([], true), 0, [(0, .ref 0)], [], 0, 0) = some (some (.int 1), G', mc, ms) ∧ mc ≤ 601024 ∧ ms ≤ 7293034 := by
  obtain ⟨f1, f2, f3, f4, f5⟩ := pj_t0_facts
  obtain ⟨G', mc, ms, ⟨f, n, h⟩, h1, h2⟩ := pj_loop (xs := xs) hL L pj_t0.1 0 pj_t0.2.2.2.2.1 pj_t0.2.2.2.2.2 pj_t0_LI (by decide) (by decide) (by show (L : Int) - 0 ≤ L; omega)
  have e : (pj_t0.1, 23, [(4, .int 0), (3, .ref 203), (2, .ref 171), (1, .ref 1), (0, .ref 0)], ([] : List Value), pj_t0.2.2.2.2.1, pj_t0.2.2.2.2.2) = pj_t0 := by
    rw [← f2, ← f3, ← f1]
  rw [e] at h
  have hto := pj_t0_lz (g := f + 20000 + (40 + n)) (by omega) (L + 1) xs
  have h3 := pj_run_le (pj_lz_le (show f ≤ f + 20000 + (40 + n) by omega)) (Or.inl ⟨rfl, rfl⟩) n n _ _ (Nat.le_refl _) h
  have h4 := pj_to_run 40 n _ _ _ hto h3
  refine ⟨f + 20000 + (40 + n), G', mc, ms, ?_, by omega, by omega⟩
  exact pj_run_le (fun mi vs G r h => h) (Or.inl ⟨rfl, rfl⟩) (40 + n) (f + 20000 + (40 + n)) _ _ (by omega) h4
