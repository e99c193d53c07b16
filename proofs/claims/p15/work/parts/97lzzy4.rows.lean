theorem mr_okn {R R' : pj_G} {nb B kc : Int} (h : mr_ok R 179 0 nb B kc) (k30 : pj_ai R' 179 (0 + 30) = pj_ai R 179 (0 + 30)) (k2 : ∀ j : Nat, (j : Int) < nb → pj_ai R' 179 (0 + 4 * j + 2) = pj_ai R 179 (0 + 4 * j + 2)) (k0 : ∀ j : Nat, (j : Int) < nb → pj_ai R' 179 (0 + 4 * j) = pj_ai R 179 (0 + 4 * j)) : mr_ok R' 179 0 nb B kc := by
  obtain ⟨h1, h2, h3⟩ := h
  refine ⟨by rw [k30]; exact h1, fun b hb => by rw [k2 b hb, k0 b hb]; exact h2 b hb, fun b d hb hd ne e => ?_⟩
  rw [k0 b hb, k0 d hd] at e
  rw [k0 b hb]
  exact h3 b d hb hd ne e
theorem mr_ok22 {R : pj_G} (hR : pj_coks pj_tb R.1 = true) {nb B kc : Int} (hb6 : nb ≤ 6) (h : mr_ok R 179 0 nb B kc) (b : Nat) (b6 : b < 6) (x : Int32) (hx : -1 ≤ x.toInt ∧ x.toInt < kc) (hu : ∀ j : Nat, (j : Int) < nb → j ≠ b → pj_ai R 179 (4 * j) = x → x.toInt = -1) : mr_ok (pj_wa R 179 (4 * b) x) 179 0 nb B kc := by
  obtain ⟨h1, h2, h3⟩ := h
  have at_ : pj_ai (pj_wa R 179 (4 * b) x) 179 (0 + 4 * b) = x := by rw [Nat.zero_add]; exact pj_ai_wa_eq hR rfl
  have ne : ∀ j : Nat, j ≠ b → pj_ai (pj_wa R 179 (4 * b) x) 179 (0 + 4 * j) = pj_ai R 179 (0 + 4 * j) := fun j hj => pj_ai_wa_nj _ _ _ _ _ (by omega)
  refine ⟨by rw [pj_ai_wa_nj _ _ _ _ _ (by omega)]; exact h1, fun j hj => ?_, fun j d hj hd hne e => ?_⟩
  · rw [pj_ai_wa_nj _ _ _ _ _ (by omega)]
    by_cases q : j = b
    · subst q
      rw [at_]
      exact ⟨(h2 j hj).1, hx.1, hx.2⟩
    · rw [ne j q]
      exact h2 j hj
  · by_cases q : j = b
    · subst q
      rw [at_, ne d (fun z => hne z.symm), Nat.zero_add] at e
      rw [at_]
      exact hu d hd (fun z => hne z.symm) e.symm
    · rw [ne j q] at e ⊢
      by_cases q2 : d = b
      · subst q2
        rw [at_] at e
        rw [e]
        rw [Nat.zero_add] at e
        exact hu j hj q e
      · rw [ne d q2] at e
        exact h3 j d hj hd hne e
theorem mr_ok25 {R : pj_G} (hR : pj_coks pj_tb R.1 = true) {nb B kc : Int} (hb6 : nb ≤ 6) (h : mr_ok R 179 0 nb B kc) (b : Nat) (b6 : b < 6) (x : Int32) (hx : -1 ≤ x.toInt) : mr_ok (pj_wa R 179 (4 * b + 2) x) 179 0 nb B kc := by
  obtain ⟨h1, h2, h3⟩ := h
  have n0 : ∀ j : Nat, pj_ai (pj_wa R 179 (4 * b + 2) x) 179 (0 + 4 * j) = pj_ai R 179 (0 + 4 * j) := fun j => pj_ai_wa_nj _ _ _ _ _ (by omega)
  refine ⟨by rw [pj_ai_wa_nj _ _ _ _ _ (by omega)]; exact h1, fun j hj => ?_, fun j d hj hd hne e => ?_⟩
  · rw [n0]
    by_cases q : j = b
    · subst q
      rw [show 0 + 4 * j + 2 = 4 * j + 2 by omega, pj_ai_wa_eq hR rfl]
      exact ⟨hx, (h2 j hj).2⟩
    · rw [pj_ai_wa_nj _ _ _ _ _ (by omega)]
      exact h2 j hj
  · rw [n0, n0] at e
    rw [n0]
    exact h3 j d hj hd hne e
theorem mr_S22 {C R : pj_G} (hC : pj_coks pj_tb C.1 = true) (hR : pj_coks pj_tb R.1 = true) {nb np B kc : Int} (hb6 : nb ≤ 6) (hp6 : np ≤ 6) (h : mr_row C 21 R 179 0 nb np B kc) (b : Nat) (b6 : b < 6) (x : Int32) (hx : -1 ≤ x.toInt ∧ x.toInt < kc) (hu : ∀ j : Nat, (j : Int) < nb → j ≠ b → pj_ai R 179 (4 * j) = x → x.toInt = -1) : mr_row (pj_wa C 22 b x) 21 (pj_wa R 179 (4 * b) x) 179 0 nb np B kc := by
  refine ⟨fun j hj => ?_, fun p hp => ?_, ?_, mr_ok22 hR hb6 h.2.2.2 b b6 x hx hu⟩
  · obtain ⟨h1, h2, h3, h4⟩ := h.1 j hj
    refine ⟨?_, ?_, ?_, ?_⟩
    · by_cases q : j = b
      · subst q
        rw [show 21 + 1 = 22 from rfl, pj_ai_wa_eq hC rfl, show 0 + 4 * j = 4 * j by omega, pj_ai_wa_eq hR rfl]
      · rw [show 21 + 1 = 22 from rfl, pj_ai_wa_nj _ _ _ _ _ q, pj_ai_wa_nj _ _ _ _ _ (by omega)]
        exact h1
    · rw [pj_ai_wa_ne _ _ _ _ _ _ (by decide), pj_ai_wa_nj _ _ _ _ _ (by omega)]
      exact h2
    · rw [pj_ai_wa_ne _ _ _ _ _ _ (by decide), pj_ai_wa_nj _ _ _ _ _ (by omega)]
      exact h3
    · rw [pj_ai_wa_ne _ _ _ _ _ _ (by decide), pj_ai_wa_nj _ _ _ _ _ (by omega)]
      exact h4
  · rw [pj_ai_wa_ne _ _ _ _ _ _ (by decide), pj_ai_wa_nj _ _ _ _ _ (by omega)]
    exact h.2.1 p hp
  · rw [pj_fi_wa, pj_ai_wa_nj _ _ _ _ _ (by omega)]
    exact h.2.2.1
theorem mr_S23 {C R : pj_G} (hC : pj_coks pj_tb C.1 = true) (hR : pj_coks pj_tb R.1 = true) {nb np B kc : Int} (hb6 : nb ≤ 6) (hp6 : np ≤ 6) (h : mr_row C 21 R 179 0 nb np B kc) (b : Nat) (b6 : b < 6) (x : Int32) : mr_row (pj_wa C 23 b x) 21 (pj_wa R 179 (4 * b + 1) x) 179 0 nb np B kc := by
  refine ⟨fun j hj => ?_, fun p hp => ?_, ?_, mr_okn h.2.2.2 (pj_ai_wa_nj _ _ _ _ _ (by omega)) (fun j _ => pj_ai_wa_nj _ _ _ _ _ (by omega)) (fun j _ => pj_ai_wa_nj _ _ _ _ _ (by omega))⟩
  · obtain ⟨h1, h2, h3, h4⟩ := h.1 j hj
    refine ⟨?_, ?_, ?_, ?_⟩
    · rw [pj_ai_wa_ne _ _ _ _ _ _ (by decide), pj_ai_wa_nj _ _ _ _ _ (by omega)]
      exact h1
    · by_cases q : j = b
      · subst q
        rw [show 21 + 2 = 23 from rfl, pj_ai_wa_eq hC rfl, show 0 + 4 * j + 1 = 4 * j + 1 by omega, pj_ai_wa_eq hR rfl]
      · rw [show 21 + 2 = 23 from rfl, pj_ai_wa_nj _ _ _ _ _ q, pj_ai_wa_nj _ _ _ _ _ (by omega)]
        exact h2
    · rw [pj_ai_wa_ne _ _ _ _ _ _ (by decide), pj_ai_wa_nj _ _ _ _ _ (by omega)]
      exact h3
    · rw [pj_ai_wa_ne _ _ _ _ _ _ (by decide), pj_ai_wa_nj _ _ _ _ _ (by omega)]
      exact h4
  · rw [pj_ai_wa_ne _ _ _ _ _ _ (by decide), pj_ai_wa_nj _ _ _ _ _ (by omega)]
    exact h.2.1 p hp
  · rw [pj_fi_wa, pj_ai_wa_nj _ _ _ _ _ (by omega)]
    exact h.2.2.1
theorem mr_S25 {C R : pj_G} (hC : pj_coks pj_tb C.1 = true) (hR : pj_coks pj_tb R.1 = true) {nb np B kc : Int} (hb6 : nb ≤ 6) (hp6 : np ≤ 6) (h : mr_row C 21 R 179 0 nb np B kc) (b : Nat) (b6 : b < 6) (x : Int32) (hx : -1 ≤ x.toInt) : mr_row (pj_wa C 25 b x) 21 (pj_wa R 179 (4 * b + 2) x) 179 0 nb np B kc := by
  refine ⟨fun j hj => ?_, fun p hp => ?_, ?_, mr_ok25 hR hb6 h.2.2.2 b b6 x hx⟩
  · obtain ⟨h1, h2, h3, h4⟩ := h.1 j hj
    refine ⟨?_, ?_, ?_, ?_⟩
    · rw [pj_ai_wa_ne _ _ _ _ _ _ (by decide), pj_ai_wa_nj _ _ _ _ _ (by omega)]
      exact h1
    · rw [pj_ai_wa_ne _ _ _ _ _ _ (by decide), pj_ai_wa_nj _ _ _ _ _ (by omega)]
      exact h2
    · by_cases q : j = b
      · subst q
        rw [show 21 + 4 = 25 from rfl, pj_ai_wa_eq hC rfl, show 0 + 4 * j + 2 = 4 * j + 2 by omega, pj_ai_wa_eq hR rfl]
      · rw [show 21 + 4 = 25 from rfl, pj_ai_wa_nj _ _ _ _ _ q, pj_ai_wa_nj _ _ _ _ _ (by omega)]
        exact h3
    · rw [pj_ai_wa_ne _ _ _ _ _ _ (by decide), pj_ai_wa_nj _ _ _ _ _ (by omega)]
      exact h4
  · rw [pj_ai_wa_ne _ _ _ _ _ _ (by decide), pj_ai_wa_nj _ _ _ _ _ (by omega)]
    exact h.2.1 p hp
  · rw [pj_fi_wa, pj_ai_wa_nj _ _ _ _ _ (by omega)]
    exact h.2.2.1
theorem mr_S24 {C R : pj_G} (hC : pj_coks pj_tb C.1 = true) (hR : pj_coks pj_tb R.1 = true) {nb np B kc : Int} (hb6 : nb ≤ 6) (hp6 : np ≤ 6) (h : mr_row C 21 R 179 0 nb np B kc) (b : Nat) (b6 : b < 6) (x : Int32) : mr_row (pj_wa C 24 b x) 21 (pj_wa R 179 (4 * b + 3) x) 179 0 nb np B kc := by
  refine ⟨fun j hj => ?_, fun p hp => ?_, ?_, mr_okn h.2.2.2 (pj_ai_wa_nj _ _ _ _ _ (by omega)) (fun j _ => pj_ai_wa_nj _ _ _ _ _ (by omega)) (fun j _ => pj_ai_wa_nj _ _ _ _ _ (by omega))⟩
  · obtain ⟨h1, h2, h3, h4⟩ := h.1 j hj
    refine ⟨?_, ?_, ?_, ?_⟩
    · rw [pj_ai_wa_ne _ _ _ _ _ _ (by decide), pj_ai_wa_nj _ _ _ _ _ (by omega)]
      exact h1
    · rw [pj_ai_wa_ne _ _ _ _ _ _ (by decide), pj_ai_wa_nj _ _ _ _ _ (by omega)]
      exact h2
    · rw [pj_ai_wa_ne _ _ _ _ _ _ (by decide), pj_ai_wa_nj _ _ _ _ _ (by omega)]
      exact h3
    · by_cases q : j = b
      · subst q
        rw [show 21 + 3 = 24 from rfl, pj_ai_wa_eq hC rfl, show 0 + 4 * j + 3 = 4 * j + 3 by omega, pj_ai_wa_eq hR rfl]
      · rw [show 21 + 3 = 24 from rfl, pj_ai_wa_nj _ _ _ _ _ q, pj_ai_wa_nj _ _ _ _ _ (by omega)]
        exact h4
  · rw [pj_ai_wa_ne _ _ _ _ _ _ (by decide), pj_ai_wa_nj _ _ _ _ _ (by omega)]
    exact h.2.1 p hp
  · rw [pj_fi_wa, pj_ai_wa_nj _ _ _ _ _ (by omega)]
    exact h.2.2.1
theorem mr_S26 {C R : pj_G} (hC : pj_coks pj_tb C.1 = true) (hR : pj_coks pj_tb R.1 = true) {nb np B kc : Int} (hb6 : nb ≤ 6) (hp6 : np ≤ 6) (h : mr_row C 21 R 179 0 nb np B kc) (b : Nat) (b6 : b < 6) (x : Int32) : mr_row (pj_wa C 26 b x) 21 (pj_wa R 179 (24 + b) x) 179 0 nb np B kc := by
  refine ⟨fun j hj => ?_, fun p hp => ?_, ?_, mr_okn h.2.2.2 (pj_ai_wa_nj _ _ _ _ _ (by omega)) (fun j _ => pj_ai_wa_nj _ _ _ _ _ (by omega)) (fun j _ => pj_ai_wa_nj _ _ _ _ _ (by omega))⟩
  · obtain ⟨a1, a2, a3, a4⟩ := h.1 j hj
    exact ⟨(pj_ai_wa_ne _ _ _ _ _ _ (by decide)).trans (a1.trans (pj_ai_wa_nj _ _ _ _ _ (by omega)).symm), (pj_ai_wa_ne _ _ _ _ _ _ (by decide)).trans (a2.trans (pj_ai_wa_nj _ _ _ _ _ (by omega)).symm), (pj_ai_wa_ne _ _ _ _ _ _ (by decide)).trans (a3.trans (pj_ai_wa_nj _ _ _ _ _ (by omega)).symm), (pj_ai_wa_ne _ _ _ _ _ _ (by decide)).trans (a4.trans (pj_ai_wa_nj _ _ _ _ _ (by omega)).symm)⟩
  · by_cases q : p = b
    · subst q
      rw [show 21 + 5 = 26 from rfl, pj_ai_wa_eq hC rfl, show 0 + 24 + p = 24 + p by omega, pj_ai_wa_eq hR rfl]
    · rw [show 21 + 5 = 26 from rfl, pj_ai_wa_nj _ _ _ _ _ q, pj_ai_wa_nj _ _ _ _ _ (by omega)]
      exact h.2.1 p hp
  · rw [pj_fi_wa, pj_ai_wa_nj _ _ _ _ _ (by omega)]
    exact h.2.2.1
theorem mr_Snow {C R : pj_G} (hC : pj_coks pj_tb C.1 = true) (hR : pj_coks pj_tb R.1 = true) {nb np B kc : Int} (hb6 : nb ≤ 6) (hp6 : np ≤ 6) (h : mr_row C 21 R 179 0 nb np B kc) (x : Int32) {B' : Int} (hx : 0 ≤ x.toInt ∧ x.toInt ≤ B') : mr_row (pj_wv C 21 7 (.int x)) 21 (pj_wa R 179 30 x) 179 0 nb np B' kc := by
  have e30 : pj_ai (pj_wa R 179 30 x) 179 (0 + 30) = x := pj_ai_wa_eq hR rfl
  have ok : mr_ok (pj_wa R 179 30 x) 179 0 nb B' kc := by
    obtain ⟨o1, o2, o3⟩ := h.2.2.2
    refine ⟨by rw [e30]; exact hx, fun j hj => ?_, fun j d hj hd hne e => ?_⟩
    · rw [pj_ai_wa_nj _ _ _ _ _ (by omega), pj_ai_wa_nj _ _ _ _ _ (by omega)]
      exact o2 j hj
    · rw [pj_ai_wa_nj _ _ _ _ _ (by omega), pj_ai_wa_nj _ _ _ _ _ (by omega)] at e
      rw [pj_ai_wa_nj _ _ _ _ _ (by omega)]
      exact o3 j d hj hd hne e
  refine ⟨fun j hj => ?_, fun p hp => ?_, ?_, ok⟩
  · rw [pj_ai_wv, pj_ai_wv, pj_ai_wv, pj_ai_wv, pj_ai_wa_nj _ _ _ _ _ (by omega), pj_ai_wa_nj _ _ _ _ _ (by omega), pj_ai_wa_nj _ _ _ _ _ (by omega), pj_ai_wa_nj _ _ _ _ _ (by omega)]
    exact h.1 j hj
  · rw [pj_ai_wv, pj_ai_wa_nj _ _ _ _ _ (by omega)]
    exact h.2.1 p hp
  · rw [pj_fi_wi hC (a := 21) (ci := 8) (k := 7) rfl, show 0 + 30 = 30 from rfl, pj_ai_wa_eq hR rfl]
/-- what else is written in the class leaves the row .. -/
theorem mr_SkC {C C' R : pj_G} {nb np B kc : Int} (h : mr_row C 21 R 179 0 nb np B kc) (k : ∀ a j, 22 ≤ a → a ≤ 26 → pj_ai C' a j = pj_ai C a j) (k7 : pj_fi C' 21 7 = pj_fi C 21 7) : mr_row C' 21 R 179 0 nb np B kc := mr_rowk h (fun j => k 22 j (by decide) (by decide)) (fun j => k 23 j (by decide) (by decide)) (fun j => k 24 j (by decide) (by decide)) (fun j => k 25 j (by decide) (by decide)) (fun j => k 26 j (by decide) (by decide)) k7
/-- .. in the reference -/
theorem mr_SkR {C R R' : pj_G} {nb np B kc : Int} (h : mr_row C 21 R 179 0 nb np B kc) (k : ∀ j, j ≠ 31 → pj_ai R' 179 j = pj_ai R 179 j) (hb6 : nb ≤ 6) (hp6 : np ≤ 6) : mr_row C 21 R' 179 0 nb np B kc := by
  refine ⟨fun j hj => ?_, fun p hp => ?_, ?_, mr_okn h.2.2.2 (k _ (by omega)) (fun j _ => k _ (by omega)) (fun j _ => k _ (by omega))⟩
  · rw [k _ (by omega), k _ (by omega), k _ (by omega), k _ (by omega)]
    exact h.1 j hj
  · rw [k _ (by omega)]
    exact h.2.1 p hp
  · rw [k _ (by omega)]
    exact h.2.2.1
