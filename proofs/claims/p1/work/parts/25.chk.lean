/-- the law from its switch on, by intervals -/
noncomputable def pj_chk (c : Int32) (sc : List pj_AV) : Bool := match pj_yrun 6 sc (pj_yexec pj_prog pj_nat 20000 40) pj_law 60 (pj_t0.1, 39, pj_t0.2.2.1.map (fun q => (q.1, (q.2, none))), [(.int c, none)], pj_t0.2.2.2.2.1, pj_t0.2.2.2.2.2) with
  | some (some (.int x, none), _, mc, ms) => decide (x = 1) && (Nat.ble mc 600002 && Nat.ble ms 7302232)
  | _ => false
theorem pj_gl_ex : ∀ L : pj_L, pj_gl (L.map (fun q => (q.1, ((q.2, none) : pj_AV)))) L
  | [] => trivial
  | q :: t => ⟨⟨rfl, rfl⟩, pj_gl_ex t⟩
set_option maxRecDepth 100000 in
theorem pj_long_of {c : Int32} {sc : List pj_AV} (hchk : pj_chk c sc = true) (xs : Nat → Int32) (h0 : xs 0 &&& 63 = c) (hsc : ∀ (j : Nat) (a : pj_AV), sc[j]? = some a → pj_ga a (.int (xs j))) : ∃ (f : Nat) (G' : pj_G) (mc ms : Nat), pj_run (pj_lc f) 6 xs pj_law f pj_i0 = some (some (.int 1), G', mc, ms) ∧ mc ≤ 600002 ∧ ms ≤ 7302232 := by
  unfold pj_chk at hchk
  split at hchk
  · rename_i x G' mc ms hy
    simp only [Bool.and_eq_true, decide_eq_true_eq] at hchk
    obtain ⟨hx1, hm, hs⟩ := hchk
    obtain ⟨v, hv, hr⟩ := pj_yrun_s (pj_yexec_s (P := pj_prog) (bi := pj_nat) (f := 20000) 40) hsc 60 pj_t0.1 39 (pj_t0.2.2.1.map (fun q => (q.1, (q.2, none)))) [(.int c, none)] pj_t0.2.2.2.2.1 pj_t0.2.2.2.2.2 pj_t0.2.2.1 [.int c] (some (.int x, none), G', mc, ms) hy (pj_gl_ex _) (And.intro rfl True.intro)
    have hv2 : v = some (.int 1) := by
      cases v with
      | none => exact hv.elim
      | some w => rw [show w = .int x from hv, hx1]
    subst hv2
    have hr2 := pj_run_le (pj_sub_lc (Nat.le_refl 20000) (by decide)) (Or.inl ⟨rfl, rfl⟩) 60 60 _ _ (Nat.le_refl _) hr
    obtain ⟨a, b, d, e⟩ := pj_t0_shape
    have h1 := pj_t0_lc (g := 20000) (Nat.le_refl _) 6 xs
    have h2 := pj_head (pj_lc 20000) xs pj_t0.1 a b d pj_t0.2.2.2.2.1 pj_t0.2.2.2.2.2
    rw [h0] at h2
    have e2 : pj_t0.2.2.1 = [(4, .int 0), (3, a), (2, b), (1, d), (0, .ref 0)] := congrArg (fun t : pj_T => t.2.2.1) e
    rw [e2] at hr2
    have h3 := pj_to_run 14 60 _ _ _ h2 hr2
    rw [← e] at h3
    have h4 := pj_to_run 40 74 _ _ _ h1 h3
    exact ⟨20000, G', mc, ms, pj_run_le (fun _ _ _ _ h => h) (Or.inl ⟨rfl, rfl⟩) 114 20000 _ _ (by decide) h4, Nat.le_of_ble_eq_true hm, Nat.le_of_ble_eq_true hs⟩
  · cases hchk
