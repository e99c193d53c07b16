/-! ANY SCRIPT BY A CLOSED NAME: what the kernel reckons of it holds of all -/
noncomputable def pj_any (p : (Nat → Int32) → Bool) : Nat → Int32 := @Classical.epsilon _ ⟨pj_x0⟩ (fun xs => p xs = false)
theorem pj_any_s {p : (Nat → Int32) → Bool} (h : p (pj_any p) = true) (xs : Nat → Int32) : p xs = true := by
  cases e : p xs with
  | true => rfl
  | false =>
    have h2 : p (pj_any p) = false := Classical.epsilon_spec_aux ⟨pj_x0⟩ (fun xs => p xs = false) ⟨xs, e⟩
    rw [h] at h2
    cases h2
/-- what is to be shown of a script of one call -/
def pj_goal (xs : Nat → Int32) : Prop := ∃ (f : Nat) (G' : pj_G) (mc ms : Nat), pj_run (pj_lc f) 6 xs pj_law f pj_i0 = some (some (.int 1), G', mc, ms) ∧ mc ≤ 600002 ∧ ms ≤ 7302232
theorem pj_join {c : Int32} {xs : Nat → Int32} (h0 : xs 0 &&& 63 = c) {g k : Nat} {G' : pj_G} {mc ms : Nat} (hr : pj_run (pj_lc g) 6 xs pj_law k (pj_t0.1, 39, pj_t0.2.2.1, [.int c], pj_t0.2.2.2.2.1, pj_t0.2.2.2.2.2) = some (some (.int 1), G', mc, ms)) (hm : mc ≤ 600002) (hs : ms ≤ 7302232) : pj_goal xs := by
  have hr2 := pj_run_le (pj_lc_le (Nat.le_add_right g 20000)) (Or.inl ⟨rfl, rfl⟩) k k _ _ (Nat.le_refl _) hr
  obtain ⟨a, b, d, e⟩ := pj_t0_shape
  have h1 := pj_t0_lc (g := g + 20000) (Nat.le_add_left _ _) 6 xs
  have h2 := pj_head (pj_lc (g + 20000)) xs pj_t0.1 a b d pj_t0.2.2.2.2.1 pj_t0.2.2.2.2.2
  rw [h0] at h2
  have e2 : pj_t0.2.2.1 = [(4, .int 0), (3, a), (2, b), (1, d), (0, .ref 0)] := congrArg (fun t : pj_T => t.2.2.1) e
  rw [e2] at hr2
  have h3 := pj_to_run 14 k _ _ _ h2 hr2
  rw [← e] at h3
  have h4 := pj_to_run 40 (14 + k) _ _ _ h1 h3
  exact ⟨g + 20000 + k, G', mc, ms, pj_run_le (pj_lc_le (Nat.le_add_right _ k)) (Or.inl ⟨rfl, rfl⟩) (40 + (14 + k)) (g + 20000 + k) _ _ (by omega) h4, hm, hs⟩
/-- the law from its switch on, of any script -/
noncomputable def pj_ck (c : Int32) (xs : Nat → Int32) : Bool := match pj_run (pj_exec pj_prog pj_nat 20000 40) 6 xs pj_law 60 (pj_t0.1, 39, pj_t0.2.2.1, [.int c], pj_t0.2.2.2.2.1, pj_t0.2.2.2.2.2) with
  | some (some (.int x), _, mc, ms) => decide (x = 1) && (Nat.ble mc 600002 && Nat.ble ms 7302232)
  | _ => false
theorem pj_ck_s {c : Int32} {xs : Nat → Int32} (h : pj_ck c xs = true) (h0 : xs 0 &&& 63 = c) : pj_goal xs := by
  unfold pj_ck at h
  split at h
  · rename_i x G' mc ms hy
    simp only [Bool.and_eq_true, decide_eq_true_eq] at h
    obtain ⟨hx1, hm, hs⟩ := h
    rw [hx1] at hy
    have hr2 := pj_run_le (pj_sub_lc (Nat.le_refl 20000) (by decide)) (Or.inl ⟨rfl, rfl⟩) 60 60 _ _ (Nat.le_refl _) hy
    exact pj_join h0 hr2 (Nat.le_of_ble_eq_true hm) (Nat.le_of_ble_eq_true hs)
  · cases h
set_option maxRecDepth 100000 in
theorem pj_ck0 : pj_ck 0 (pj_any (pj_ck 0)) = true := by decide +kernel
/-- sign -/
theorem pj_g0 {xs : Nat → Int32} (h0 : xs 0 &&& 63 = 0) : pj_goal xs := pj_ck_s (pj_any_s pj_ck0 xs) h0
