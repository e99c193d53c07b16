/-! READING IN STEP: the class's text (C) and the reference's (R) -/
def tx_RD (C R : pj_G) : Prop := pj_Inv C ∧ pj_Inv R ∧ (pj_fi C 2 4).toInt = -1 ∧ (pj_fi C 2 3).toInt = (pj_fi R 171 17).toInt ∧ (pj_fi C 2 2).toInt = (pj_fi R 171 18).toInt ∧ (pj_fi C 2 3).toInt ≤ (pj_fi C 2 2).toInt ∧ (∀ j : Nat, (j : Int) < (pj_fi C 2 2).toInt → pj_ai C 3 j = pj_ai R 180 j)
def tx_ER (C R : pj_G) : Prop := pj_Inv C ∧ pj_Inv R ∧ (pj_fi C 2 4).toInt = (pj_fi R 171 17).toInt ∧ (pj_fi R 171 17).toInt ≤ (pj_fi R 171 18).toInt ∧ (pj_fi C 2 2).toInt = (pj_fi R 171 18).toInt
theorem tx_r23 {C : pj_G} (h : pj_Inv C) : (0 : Int) ≤ (pj_fi C 2 3).toInt ∧ (pj_fi C 2 3).toInt ≤ 80 := h.2.1 2 3 (0, 80) rfl
theorem tx_r17 {R : pj_G} (h : pj_Inv R) : (0 : Int) ≤ (pj_fi R 171 17).toInt ∧ (pj_fi R 171 17).toInt ≤ 80 := h.2.1 171 17 (0, 80) rfl
theorem tx_cur {C R : pj_G} (h : tx_RD C R) (hl : (pj_fi R 171 17).toInt < (pj_fi R 171 18).toInt) : (pj_ai C 3 (pj_fi C 2 3).toInt.toNat).toInt = (pj_ai R 180 (pj_fi R 171 17).toInt.toNat).toInt := by
  obtain ⟨iC, iR, hb, ha, hm, hle, ht⟩ := h
  have r := tx_r23 iC
  rw [ht (pj_fi C 2 3).toInt.toNat (by omega), ha]
theorem tx_st {C R C' R' : pj_G} (h : tx_RD C R) (iC : pj_Inv C') (iR : pj_Inv R') (lc : pj_fi C' 2 2 = pj_fi C 2 2) (ac : ∀ j, pj_ai C' 3 j = pj_ai C 3 j) (lr : pj_fi R' 171 18 = pj_fi R 171 18) (ar : ∀ j, pj_ai R' 180 j = pj_ai R 180 j) (hb : (pj_fi C' 2 4).toInt = -1) (ha : (pj_fi C' 2 3).toInt = (pj_fi R' 171 17).toInt) (hle : (pj_fi R' 171 17).toInt ≤ (pj_fi R 171 18).toInt) : tx_RD C' R' := by
  obtain ⟨_, _, _, _, hm, _, ht⟩ := h
  have lc' : (pj_fi C' 2 2).toInt = (pj_fi C 2 2).toInt := by rw [lc]
  have lr' : (pj_fi R' 171 18).toInt = (pj_fi R 171 18).toInt := by rw [lr]
  exact ⟨iC, iR, hb, ha, by omega, by omega, fun j hj => by rw [ac, ar]; exact ht j (by omega)⟩
/-- a sign out of a stretch, against a reading of the reference's that takes the same signs -/
theorem tx_pk {C R R' : pj_G} (h : tx_RD C R) (lo hi : Int32) (rlo : (0 : Int) ≤ lo.toInt ∧ lo.toInt ≤ 255) (rhi : (-1 : Int) ≤ hi.toInt ∧ hi.toInt ≤ 255) (iR : pj_Inv R') (lr : pj_fi R' 171 18 = pj_fi R 171 18) (ar : ∀ j, pj_ai R' 180 j = pj_ai R 180 j) (hs : ((pj_fi R 171 17).toInt < (pj_fi R 171 18).toInt ∧ lo.toInt ≤ (pj_ai R 180 (pj_fi R 171 17).toInt.toNat).toInt ∧ (pj_ai R 180 (pj_fi R 171 17).toInt.toNat).toInt ≤ hi.toInt) → (pj_fi R' 171 17).toInt = (pj_fi R 171 17).toInt + 1) (hf : ¬ ((pj_fi R 171 17).toInt < (pj_fi R 171 18).toInt ∧ lo.toInt ≤ (pj_ai R 180 (pj_fi R 171 17).toInt.toNat).toInt ∧ (pj_ai R 180 (pj_fi R 171 17).toInt.toNat).toInt ≤ hi.toInt) → (pj_fi R' 171 17).toInt = (pj_fi R 171 17).toInt) : (((pj_fi R 171 17).toInt < (pj_fi R 171 18).toInt ∧ lo.toInt ≤ (pj_ai R 180 (pj_fi R 171 17).toInt.toNat).toInt ∧ (pj_ai R 180 (pj_fi R 171 17).toInt.toNat).toInt ≤ hi.toInt) ∧ (F_83x C lo hi).1.toInt = (pj_ai R 180 (pj_fi R 171 17).toInt.toNat).toInt - lo.toInt ∧ tx_RD (F_83x C lo hi).2 R') ∨ (¬ ((pj_fi R 171 17).toInt < (pj_fi R 171 18).toInt ∧ lo.toInt ≤ (pj_ai R 180 (pj_fi R 171 17).toInt.toNat).toInt ∧ (pj_ai R 180 (pj_fi R 171 17).toInt.toNat).toInt ≤ hi.toInt) ∧ tx_ER (F_83x C lo hi).2 R') := by
  obtain ⟨iC', kC, -, -, e1, e2⟩ := fr_83x C h.1 lo hi rlo rhi
  have hc := tx_cur h
  have h' := h
  obtain ⟨iC, iR0, hb, ha, hm, hle, ht⟩ := h
  have lr' : (pj_fi R' 171 18).toInt = (pj_fi R 171 18).toInt := by rw [lr]
  by_cases q : ((pj_fi R 171 17).toInt < (pj_fi R 171 18).toInt ∧ lo.toInt ≤ (pj_ai R 180 (pj_fi R 171 17).toInt.toNat).toInt ∧ (pj_ai R 180 (pj_fi R 171 17).toInt.toNat).toInt ≤ hi.toInt)
  · have hc := hc q.1
    obtain ⟨a1, a2, a3⟩ := e1 ⟨hb, by omega, by omega, by omega⟩
    have b := hs q
    exact .inl ⟨q, by omega, tx_st h' iC' iR (kC.1 (2, 2) (by decide)) (fun j => kC.2.2 3 (by decide) j) lr ar a3 (by omega) (by omega)⟩
  · have hn : ¬ ((pj_fi C 2 4).toInt = -1 ∧ (pj_fi C 2 3).toInt < (pj_fi C 2 2).toInt ∧ lo.toInt ≤ (pj_ai C 3 (pj_fi C 2 3).toInt.toNat).toInt ∧ (pj_ai C 3 (pj_fi C 2 3).toInt.toNat).toInt ≤ hi.toInt) := by
      rintro ⟨b1, b2, b3, b4⟩
      have := hc (by omega)
      exact q ⟨by omega, by omega, by omega⟩
    obtain ⟨a1, a2, a3, a4⟩ := e2 hn
    have b := hf q
    have c := a3 hb
    have lc : pj_fi (F_83x C lo hi).2 2 2 = pj_fi C 2 2 := kC.1 (2, 2) (by decide)
    have lc' : (pj_fi (F_83x C lo hi).2 2 2).toInt = (pj_fi C 2 2).toInt := by rw [lc]
    exact .inr ⟨q, iC', iR, by omega, by omega, by omega⟩
theorem tx_skip {C R : pj_G} (h : tx_RD C R) (g : Int32) (rg : (0 : Int) ≤ g.toInt ∧ g.toInt ≤ 255) : (F_82x C g).1.toInt = (F_183x R g).1.toInt ∧ tx_RD (F_82x C g).2 (F_183x R g).2 := by
  obtain ⟨iC', kC, -, c1, c2, c3⟩ := fr_82x C h.1 g rg
  obtain ⟨iR', kR, -, -, r1, r2⟩ := fr_183x R h.2.1 g rg
  have hc := tx_cur h
  have h' := h
  obtain ⟨iC, iR0, hb, ha, hm, hle, ht⟩ := h
  have l1 : pj_fi (F_82x C g).2 2 2 = pj_fi C 2 2 := kC.1 (2, 2) (by decide)
  have l2 : pj_fi (F_183x R g).2 171 18 = pj_fi R 171 18 := kR.1 (171, 18) (by decide)
  by_cases q : (pj_fi R 171 17).toInt < (pj_fi R 171 18).toInt ∧ (pj_ai R 180 (pj_fi R 171 17).toInt.toNat).toInt = g.toInt
  · have hc := hc q.1
    obtain ⟨a1, a2⟩ := c1 ⟨hb, by omega, by omega⟩
    obtain ⟨b1, b2⟩ := r1 q
    exact ⟨by omega, tx_st h' iC' iR' l1 (fun j => kC.2.2 3 (by decide) j) l2 (fun j => kR.2.2 180 (by decide) j) (by omega) (by omega) (by omega)⟩
  · have hn : ¬ ((pj_fi C 2 4).toInt = -1 ∧ (pj_fi C 2 3).toInt < (pj_fi C 2 2).toInt ∧ (pj_ai C 3 (pj_fi C 2 3).toInt.toNat).toInt = g.toInt) := by
      rintro ⟨b1, b2, b3⟩
      have := hc (by omega)
      exact q ⟨by omega, by omega⟩
    obtain ⟨a1, a2⟩ := c2 hn
    obtain ⟨b1, b2⟩ := r2 q
    exact ⟨by omega, tx_st h' iC' iR' l1 (fun j => kC.2.2 3 (by decide) j) l2 (fun j => kR.2.2 180 (by decide) j) (by omega) (by omega) (by omega)⟩
/-- behind a sign that can't stand the class reads no more -/
theorem tx_dead {C : pj_G} (iC : pj_Inv C) (hb : ¬ (pj_fi C 2 4).toInt = -1) (lo hi : Int32) (rlo : (0 : Int) ≤ lo.toInt ∧ lo.toInt ≤ 255) (rhi : (-1 : Int) ≤ hi.toInt ∧ hi.toInt ≤ 255) : pj_Inv (F_83x C lo hi).2 ∧ (F_83x C lo hi).1.toInt = 0 ∧ (pj_fi (F_83x C lo hi).2 2 4).toInt = (pj_fi C 2 4).toInt ∧ pj_fi (F_83x C lo hi).2 2 2 = pj_fi C 2 2 := by
  obtain ⟨iC', kC, -, -, e1, e2⟩ := fr_83x C iC lo hi rlo rhi
  obtain ⟨a1, a2, a3, a4⟩ := e2 (fun q => hb q.1)
  exact ⟨iC', a1, a4 hb, kC.1 (2, 2) (by decide)⟩
/-- digits 1 .. 9 -/
theorem tx_dig {C R : pj_G} (h : tx_RD C R) : ((F_83x C ((Int8.ofInt 49).toInt32) ((Int8.ofInt 57).toInt32)).1.toInt = (F_186_s9x R).1.toInt ∧ 0 ≤ (F_186_s9x R).1.toInt ∧ tx_RD (F_83x C ((Int8.ofInt 49).toInt32) ((Int8.ofInt 57).toInt32)).2 (F_186_s9x R).2) ∨ ((F_186_s9x R).1.toInt = -1 ∧ tx_ER (F_83x C ((Int8.ofInt 49).toInt32) ((Int8.ofInt 57).toInt32)).2 (F_186_s9x R).2) := by
  have k1 : (((Int8.ofInt 49).toInt32)).toInt = 49 := by decide
  have k2 : (((Int8.ofInt 57).toInt32)).toInt = 57 := by decide
  obtain ⟨iR', kR, -, -, r1, r2⟩ := fr_186_s9x R h.2.1
  rcases tx_pk h ((Int8.ofInt 49).toInt32) ((Int8.ofInt 57).toInt32) (by omega) (by omega) iR' (kR.1 (171, 18) (by decide)) (fun j => kR.2.2 180 (by decide) j) (fun q => (r1 (by omega)).2) (fun q => (r2 (by omega)).2) with ⟨q, a, b⟩ | ⟨q, b⟩
  · obtain ⟨c1, c2⟩ := r1 (by omega)
    exact .inl ⟨by omega, by omega, b⟩
  · obtain ⟨c1, c2⟩ := r2 (by omega)
    exact .inr ⟨c1, b⟩
/-- digits 2 .. 8 -/
theorem tx_dig8 {C R : pj_G} (h : tx_RD C R) : ((F_83x C ((Int8.ofInt 50).toInt32) ((Int8.ofInt 56).toInt32)).1.toInt = (F_186_s10x R).1.toInt ∧ 0 ≤ (F_186_s10x R).1.toInt ∧ tx_RD (F_83x C ((Int8.ofInt 50).toInt32) ((Int8.ofInt 56).toInt32)).2 (F_186_s10x R).2) ∨ ((F_186_s10x R).1.toInt = -1 ∧ tx_ER (F_83x C ((Int8.ofInt 50).toInt32) ((Int8.ofInt 56).toInt32)).2 (F_186_s10x R).2) := by
  have k1 : (((Int8.ofInt 50).toInt32)).toInt = 50 := by decide
  have k2 : (((Int8.ofInt 56).toInt32)).toInt = 56 := by decide
  obtain ⟨iR', kR, -, -, r1, r2⟩ := fr_186_s10x R h.2.1
  rcases tx_pk h ((Int8.ofInt 50).toInt32) ((Int8.ofInt 56).toInt32) (by omega) (by omega) iR' (kR.1 (171, 18) (by decide)) (fun j => kR.2.2 180 (by decide) j) (fun q => (r1 (by omega)).2) (fun q => (r2 (by omega)).2) with ⟨q, a, b⟩ | ⟨q, b⟩
  · obtain ⟨c1, c2⟩ := r1 (by omega)
    exact .inl ⟨by omega, by omega, b⟩
  · obtain ⟨c1, c2⟩ := r2 (by omega)
    exact .inr ⟨c1, b⟩
/-- a letter of many BANKS -/
theorem tx_let {C R : pj_G} (h : tx_RD C R) (b hi : Int32) (rb : (0 : Int) ≤ b.toInt ∧ b.toInt ≤ 8) (hh : hi.toInt = 96 + b.toInt) : ((F_83x C ((Int8.ofInt 97).toInt32) hi).1.toInt = (F_188x R b).1.toInt ∧ 0 ≤ (F_188x R b).1.toInt ∧ tx_RD (F_83x C ((Int8.ofInt 97).toInt32) hi).2 (F_188x R b).2) ∨ ((F_188x R b).1.toInt = -1 ∧ tx_ER (F_83x C ((Int8.ofInt 97).toInt32) hi).2 (F_188x R b).2) := by
  have k1 : (((Int8.ofInt 97).toInt32)).toInt = 97 := by decide
  obtain ⟨iR', kR, -, -, r1, r2⟩ := fr_188x R h.2.1 b rb
  rcases tx_pk h ((Int8.ofInt 97).toInt32) hi (by omega) (by omega) iR' (kR.1 (171, 18) (by decide)) (fun j => kR.2.2 180 (by decide) j) (fun q => (r1 (by omega)).2) (fun q => (r2 (by omega)).2) with ⟨q, a, b⟩ | ⟨q, b⟩
  · obtain ⟨c1, c2⟩ := r1 (by omega)
    exact .inl ⟨by omega, by omega, b⟩
  · obtain ⟨c1, c2⟩ := r2 (by omega)
    exact .inr ⟨c1, b⟩
/-- a colon -/
theorem tx_col {C R : pj_G} (h : tx_RD C R) (c : Int32) (rc : (0 : Int) ≤ c.toInt ∧ c.toInt ≤ 255) : ((F_183x R c).1.toInt = 1 ∧ tx_RD (F_83x C c c).2 (F_183x R c).2) ∨ ((F_183x R c).1.toInt = 0 ∧ tx_ER (F_83x C c c).2 (F_183x R c).2) := by
  obtain ⟨iR', kR, -, -, r1, r2⟩ := fr_183x R h.2.1 c rc
  rcases tx_pk h c c (by omega) (by omega) iR' (kR.1 (171, 18) (by decide)) (fun j => kR.2.2 180 (by decide) j) (fun q => (r1 (by omega)).2) (fun q => (r2 (by omega)).2) with ⟨q, a, b⟩ | ⟨q, b⟩
  · obtain ⟨c1, c2⟩ := r1 (by omega)
    exact .inl ⟨by omega, b⟩
  · obtain ⟨c1, c2⟩ := r2 (by omega)
    exact .inr ⟨c1, b⟩
theorem pj_bd_p {α β γ : Type} (p : α × β) (k : α → β → γ) : pj_bd p k = k p.1 p.2 := rfl
theorem pj_bd_x {α β γ : Type} (p : α × β) (k : α → β → γ) : pj_bd p k = k p.1 p.2 := by rw [pj_bd_p]
theorem pj_nm_x {α β : Type} (x : α) (k : α → β) : pj_nm x k = k x := by rw [pj_nm_e]
theorem tx_isd {C R : pj_G} (h : tx_RD C R) : (F_85x C).toInt = (F_184x R).toInt := by
  obtain ⟨rc, c1, c2⟩ := fr_85x C h.1
  obtain ⟨rr, r1, r2⟩ := fr_184x R h.2.1
  have hc := tx_cur h
  obtain ⟨iC, iR0, hb, ha, hm, hle, ht⟩ := h
  by_cases q : ((pj_fi R 171 17).toInt < (pj_fi R 171 18).toInt ∧ 48 ≤ (pj_ai R 180 (pj_fi R 171 17).toInt.toNat).toInt ∧ (pj_ai R 180 (pj_fi R 171 17).toInt.toNat).toInt ≤ 57)
  · have hc := hc q.1
    have := c1 ⟨hb, by omega, by omega, by omega⟩
    omega
  · have := c2 (by
      rintro ⟨b1, b2, b3, b4⟩
      have := hc (by omega)
      exact q ⟨by omega, by omega, by omega⟩)
    have : ¬ 1 ≤ (F_184x R).toInt := fun z => q (r1 z)
    omega
theorem tx_w17 {R : pj_G} (iR : pj_Inv R) (z : Int32) (hz : 0 ≤ z.toInt ∧ z.toInt ≤ 80) : pj_Inv (pj_wv R 171 17 (.int z)) ∧ pj_fi (pj_wv R 171 17 (.int z)) 171 17 = z ∧ pj_fi (pj_wv R 171 17 (.int z)) 171 18 = pj_fi R 171 18 ∧ (∀ a j, pj_ai (pj_wv R 171 17 (.int z)) a j = pj_ai R a j) :=
  ⟨pj_Inv_wi iR (ci := 12) rfl (fun q hq => by cases hq; exact ⟨by show (0 : Int) ≤ _; omega, by show _ ≤ (80 : Int); omega⟩), pj_fi_wi iR.1 (ci := 12) rfl z, pj_fi_wv_ne _ _ _ _ _ _ (by decide), fun a j => pj_ai_wv _ _ _ _ _ _⟩
/-- one digit more, on both sides -/
theorem tx_dg1 {C R : pj_G} (h : tx_RD C R) (hd : (F_85x C).toInt = 1) : ((pj_fi R 171 17).toInt < (pj_fi R 171 18).toInt ∧ 48 ≤ (pj_ai R 180 (pj_fi R 171 17).toInt.toNat).toInt ∧ (pj_ai R 180 (pj_fi R 171 17).toInt.toNat).toInt ≤ 57) ∧ (F_83x C ((Int8.ofInt 48).toInt32) ((Int8.ofInt 57).toInt32)).1.toInt = (pj_ai R 180 (pj_fi R 171 17).toInt.toNat).toInt - 48 ∧ tx_RD (F_83x C ((Int8.ofInt 48).toInt32) ((Int8.ofInt 57).toInt32)).2 (pj_wv R 171 17 (.int (pj_fi R 171 17 + Int32.ofInt 1))) := by
  have k1 : (((Int8.ofInt 48).toInt32)).toInt = 48 := by decide
  have k2 : (((Int8.ofInt 57).toInt32)).toInt = 57 := by decide
  have k3 : (Int32.ofInt 1).toInt = 1 := by decide
  have e := tx_isd h
  obtain ⟨rr, r1, r2⟩ := fr_184x R h.2.1
  have q := r1 (by omega)
  have r17 := tx_r17 h.2.1
  have r18 : (0 : Int) ≤ (pj_fi R 171 18).toInt ∧ (pj_fi R 171 18).toInt ≤ 80 := h.2.1.2.1 171 18 (0, 80) rfl
  have z : (pj_fi R 171 17 + Int32.ofInt 1).toInt = (pj_fi R 171 17).toInt + 1 := by rw [pj_addI (by omega) (by omega), k3]
  obtain ⟨iR', w1, w2, w3⟩ := tx_w17 h.2.1 (pj_fi R 171 17 + Int32.ofInt 1) (by omega)
  have w1' : (pj_fi (pj_wv R 171 17 (.int (pj_fi R 171 17 + Int32.ofInt 1))) 171 17).toInt = (pj_fi R 171 17).toInt + 1 := by rw [w1, z]
  rcases tx_pk h ((Int8.ofInt 48).toInt32) ((Int8.ofInt 57).toInt32) (by omega) (by omega) iR' w2 (fun j => w3 180 j) (fun _ => w1') (fun n => absurd (show ((pj_fi R 171 17).toInt < (pj_fi R 171 18).toInt ∧ (((Int8.ofInt 48).toInt32)).toInt ≤ (pj_ai R 180 (pj_fi R 171 17).toInt.toNat).toInt ∧ (pj_ai R 180 (pj_fi R 171 17).toInt.toNat).toInt ≤ (((Int8.ofInt 57).toInt32)).toInt) by omega) n) with ⟨q1, a, b⟩ | ⟨q1, b⟩
  · exact ⟨q, by omega, b⟩
  · exact absurd (show ((pj_fi R 171 17).toInt < (pj_fi R 171 18).toInt ∧ (((Int8.ofInt 48).toInt32)).toInt ≤ (pj_ai R 180 (pj_fi R 171 17).toInt.toNat).toInt ∧ (pj_ai R 180 (pj_fi R 171 17).toInt.toNat).toInt ≤ (((Int8.ofInt 57).toInt32)).toInt) by omega) q1
theorem tx_nml (C0 R0 : pj_G) (n : Int32) (hn : n.toInt ≤ 3) : ∀ (k fc fr : Nat) (i v : Int32) (C R : pj_G), tx_RD C R → 1 ≤ i.toInt → i.toInt ≤ 3 → n.toInt - i.toInt ≤ k → k < fc → k < fr → 0 ≤ v.toInt → v.toInt ≤ 999 → (i.toInt = 1 → v.toInt ≤ 9) → (i.toInt = 2 → v.toInt ≤ 99) → (L_86x C0 n fc i v C).1 = (L_187ex R0 n fr v i R).1 ∧ tx_RD (L_86x C0 n fc i v C).2 (L_187ex R0 n fr v i R).2 := by
  intro k
  induction k with
  | zero =>
    intro fc fr i v C R h i1 i3 hk hfc hfr v0 v9 b1 b2
    obtain ⟨f, rfl⟩ : ∃ f, fc = f + 1 := ⟨fc - 1, by omega⟩
    obtain ⟨g, rfl⟩ : ∃ g, fr = g + 1 := ⟨fr - 1, by omega⟩
    rw [L_86x_s0, L_187ex_s0]
    simp only [pj_nm_x, pj_bd_x]
    rw [pj_b_geT (show n.toInt ≤ i.toInt by omega), pj_cT, pj_cT]
    exact ⟨rfl, h⟩
  | succ k ih =>
    intro fc fr i v C R h i1 i3 hk hfc hfr v0 v9 b1 b2
    obtain ⟨f, rfl⟩ : ∃ f, fc = f + 1 := ⟨fc - 1, by omega⟩
    obtain ⟨g, rfl⟩ : ∃ g, fr = g + 1 := ⟨fr - 1, by omega⟩
    rw [L_86x_s0, L_187ex_s0]
    simp only [pj_nm_x, pj_bd_x]
    by_cases q : n.toInt ≤ i.toInt
    · rw [pj_b_geT q, pj_cT, pj_cT]
      exact ⟨rfl, h⟩
    · rw [pj_b_geF (show i.toInt < n.toInt by omega), pj_cF, pj_cF]
      have e := tx_isd h
      have rr := (fr_85x C h.1).1
      by_cases d : (F_85x C).toInt = 0
      · rw [pj_b0_eqT d, pj_b0_eqT (show (F_184x R).toInt = 0 by omega), pj_cT, pj_cT]
        exact ⟨rfl, h⟩
      · obtain ⟨q1, q2, q3⟩ := tx_dg1 h (by omega)
        have k1 : (((Int8.ofInt 48).toInt32)).toInt = 48 := by decide
        have k2 : (((Int8.ofInt 10).toInt32)).toInt = 10 := by decide
        have k3 : (Int32.ofInt 1).toInt = 1 := by decide
        rw [pj_b0_eqF d, pj_b0_eqF (show ¬ (F_184x R).toInt = 0 by omega), pj_cF, pj_cF]
        have m1 : (v * ((Int8.ofInt 10).toInt32)).toInt = 10 * v.toInt := pj_mulR k2 (by omega) (by omega)
        have m2 : (((Int8.ofInt 10).toInt32) * v).toInt = 10 * v.toInt := pj_mulL k2 (by omega) (by omega)
        have s1 : (v * ((Int8.ofInt 10).toInt32) + (F_83x C ((Int8.ofInt 48).toInt32) ((Int8.ofInt 57).toInt32)).1).toInt = 10 * v.toInt + ((pj_ai R 180 (pj_fi R 171 17).toInt.toNat).toInt - 48) := by rw [pj_addI (by omega) (by omega), m1, q2]
        have s2 : (((Int8.ofInt 10).toInt32) * v + pj_ai R 180 (pj_fi R 171 17).toInt.toNat).toInt = 10 * v.toInt + (pj_ai R 180 (pj_fi R 171 17).toInt.toNat).toInt := by rw [pj_addI (by omega) (by omega), m2]
        have s3 : (((Int8.ofInt 10).toInt32) * v + pj_ai R 180 (pj_fi R 171 17).toInt.toNat - ((Int8.ofInt 48).toInt32)).toInt = 10 * v.toInt + (pj_ai R 180 (pj_fi R 171 17).toInt.toNat).toInt - 48 := by rw [pj_subI (by omega) (by omega), s2, k1]
        have ev : v * ((Int8.ofInt 10).toInt32) + (F_83x C ((Int8.ofInt 48).toInt32) ((Int8.ofInt 57).toInt32)).1 = ((Int8.ofInt 10).toInt32) * v + pj_ai R 180 (pj_fi R 171 17).toInt.toNat - ((Int8.ofInt 48).toInt32) := Int32.toInt_inj.mp (by omega)
        have si : (i + Int32.ofInt 1).toInt = i.toInt + 1 := by rw [pj_addI (by omega) (by omega), k3]
        rw [ev]
        exact ih f g _ _ _ _ q3 (by omega) (by omega) (by omega) (by omega) (by omega) (by omega) (by omega) (by omega) (by omega)
theorem tx_num {C R : pj_G} (h : tx_RD C R) (n : Int32) (rn : (1 : Int) ≤ n.toInt ∧ n.toInt ≤ 3) : ((F_86x C n).1 = (F_187ex R n).1 ∧ 0 ≤ (F_187ex R n).1.toInt ∧ tx_RD (F_86x C n).2 (F_187ex R n).2) ∨ ((F_187ex R n).1.toInt = -1 ∧ tx_ER (F_86x C n).2 (F_187ex R n).2) := by
  have k1 : (((Int8.ofInt 48).toInt32)).toInt = 48 := by decide
  have k2 : (((Int8.ofInt 57).toInt32)).toInt = 57 := by decide
  have k10 : (((Int8.ofInt 10).toInt32)).toInt = 10 := by decide
  have c0 : (Int32.ofInt 0).toInt = 0 := by decide
  have c1 : (Int32.ofInt 1).toInt = 1 := by decide
  have cm : (Int32.ofInt (-1)).toInt = -1 := by decide
  have e := tx_isd h
  obtain ⟨rr, r1, r2⟩ := fr_184x R h.2.1
  rw [F_86x_e, F_187ex_e]
  simp only [pj_nm_x, pj_bd_x]
  by_cases d : (F_184x R).toInt = 0
  · rw [pj_b0_neF d, pj_cF]
    right
    refine ⟨cm, ?_⟩
    have hno : ¬ ((pj_fi R 171 17).toInt < (pj_fi R 171 18).toInt ∧ (((Int8.ofInt 48).toInt32)).toInt ≤ (pj_ai R 180 (pj_fi R 171 17).toInt.toNat).toInt ∧ (pj_ai R 180 (pj_fi R 171 17).toInt.toNat).toInt ≤ (((Int8.ofInt 57).toInt32)).toInt) := by
      intro z
      rcases r2 d with z1 | z1 | z1 <;> omega
    rcases tx_pk h ((Int8.ofInt 48).toInt32) ((Int8.ofInt 57).toInt32) (by omega) (by omega) h.2.1 rfl (fun _ => rfl) (fun z => absurd z hno) (fun _ => rfl) with ⟨q, _, _⟩ | ⟨_, q⟩
    · exact absurd q hno
    · have hb : ¬ (pj_fi (F_83x C ((Int8.ofInt 48).toInt32) ((Int8.ofInt 57).toInt32)).2 2 4).toInt = -1 := by
        have := tx_r17 h.2.1
        have := q.2.2.1
        omega
      have z := (fr_85x (F_83x C ((Int8.ofInt 48).toInt32) ((Int8.ofInt 57).toInt32)).2 q.1).2.2 (fun w => hb w.1)
      rw [L_86x_s0 C n 3]
      simp only [pj_nm_x, pj_bd_x]
      by_cases g : n.toInt ≤ (Int32.ofInt 1).toInt
      · rw [pj_b_geT g, pj_cT]
        exact q
      · rw [pj_b_geF (show (Int32.ofInt 1).toInt < n.toInt by omega), pj_cF, pj_b0_eqT z, pj_cT]
        exact q
  · obtain ⟨q1, q2, q3⟩ := tx_dg1 h (by omega)
    rw [pj_b0_neT d, pj_cT, L_187ex_s0 R n 3]
    simp only [pj_nm_x, pj_bd_x]
    rw [pj_b_geF (show (Int32.ofInt 0).toInt < n.toInt by omega), pj_cF, pj_b0_eqF d, pj_cF]
    have m2 : (((Int8.ofInt 10).toInt32) * Int32.ofInt 0).toInt = 0 := by decide
    have s2 : (((Int8.ofInt 10).toInt32) * Int32.ofInt 0 + pj_ai R 180 (pj_fi R 171 17).toInt.toNat).toInt = (pj_ai R 180 (pj_fi R 171 17).toInt.toNat).toInt := by rw [pj_addI (by omega) (by omega), m2]; omega
    have s3 : (((Int8.ofInt 10).toInt32) * Int32.ofInt 0 + pj_ai R 180 (pj_fi R 171 17).toInt.toNat - ((Int8.ofInt 48).toInt32)).toInt = (pj_ai R 180 (pj_fi R 171 17).toInt.toNat).toInt - 48 := by rw [pj_subI (by omega) (by omega), s2, k1]
    have ev : (F_83x C ((Int8.ofInt 48).toInt32) ((Int8.ofInt 57).toInt32)).1 = ((Int8.ofInt 10).toInt32) * Int32.ofInt 0 + pj_ai R 180 (pj_fi R 171 17).toInt.toNat - ((Int8.ofInt 48).toInt32) := Int32.toInt_inj.mp (by omega)
    have e1 : Int32.ofInt 0 + Int32.ofInt 1 = Int32.ofInt 1 := by decide
    rw [e1, ← ev]
    have z := tx_nml C R n rn.2 2 4 3 (Int32.ofInt 1) (F_83x C ((Int8.ofInt 48).toInt32) ((Int8.ofInt 57).toInt32)).1 _ _ q3 (by omega) (by omega) (by omega) (by omega) (by omega) (by omega) (by omega) (by omega) (by omega)
    left
    refine ⟨z.1, ?_, z.2⟩
    rw [← z.1]
    have w := (fr_86x C h.1 n rn).2.2.1
    rw [F_86x_e, pj_bd_p] at w
    exact w
