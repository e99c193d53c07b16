/-! WRITES BESIDE THE TEXT -/
theorem tx_waC {C R : pj_G} (h : tx_RD C R) {a j : Nat} {x : Int32} (i : pj_Inv (pj_wa C a j x)) (ne : 3 ≠ a) : tx_RD (pj_wa C a j x) R := by
  obtain ⟨iC, iR, hb, ha, hm, hle, ht⟩ := h
  refine ⟨i, iR, ?_, ?_, ?_, ?_, ?_⟩
  · rw [pj_fi_wa]; exact hb
  · rw [pj_fi_wa]; exact ha
  · rw [pj_fi_wa]; exact hm
  · rw [pj_fi_wa, pj_fi_wa]; exact hle
  · intro k hk
    rw [pj_fi_wa] at hk
    rw [pj_ai_wa_ne _ _ _ _ _ _ ne]
    exact ht k hk
theorem tx_wvC {C R : pj_G} (h : tx_RD C R) {a k : Nat} {v : Value} (i : pj_Inv (pj_wv C a k v)) (ne : ¬ 2 = a) : tx_RD (pj_wv C a k v) R := by
  obtain ⟨iC, iR, hb, ha, hm, hle, ht⟩ := h
  have e : ∀ m, pj_fi (pj_wv C a k v) 2 m = pj_fi C 2 m := fun m => pj_fi_wv_ne _ _ _ _ _ _ (fun z => ne z.1)
  refine ⟨i, iR, ?_, ?_, ?_, ?_, ?_⟩
  · rw [e]; exact hb
  · rw [e]; exact ha
  · rw [e]; exact hm
  · rw [e, e]; exact hle
  · intro j hj
    rw [e] at hj
    rw [pj_ai_wv]
    exact ht j hj
theorem tx_waR {C R : pj_G} (h : tx_RD C R) {a j : Nat} {x : Int32} (i : pj_Inv (pj_wa R a j x)) (ne : 180 ≠ a) : tx_RD C (pj_wa R a j x) := by
  obtain ⟨iC, iR, hb, ha, hm, hle, ht⟩ := h
  refine ⟨iC, i, hb, ?_, ?_, hle, ?_⟩
  · rw [pj_fi_wa]; exact ha
  · rw [pj_fi_wa]; exact hm
  · intro k hk
    rw [pj_ai_wa_ne _ _ _ _ _ _ ne]
    exact ht k hk
theorem tx_wvR {C R : pj_G} (h : tx_RD C R) {k : Nat} {v : Value} (i : pj_Inv (pj_wv R 171 k v)) (n1 : ¬ 17 = k) (n2 : ¬ 18 = k) : tx_RD C (pj_wv R 171 k v) := by
  obtain ⟨iC, iR, hb, ha, hm, hle, ht⟩ := h
  refine ⟨iC, i, hb, ?_, ?_, hle, ?_⟩
  · rw [pj_fi_wv_ne _ _ _ _ _ _ (fun z => n1 z.2)]; exact ha
  · rw [pj_fi_wv_ne _ _ _ _ _ _ (fun z => n2 z.2)]; exact hm
  · intro j hj
    rw [pj_ai_wv]
    exact ht j hj
theorem tx_ewaC {C R : pj_G} (h : tx_ER C R) {a j : Nat} {x : Int32} (i : pj_Inv (pj_wa C a j x)) : tx_ER (pj_wa C a j x) R := ⟨i, h.2.1, by rw [pj_fi_wa]; exact h.2.2.1, h.2.2.2.1, by rw [pj_fi_wa]; exact h.2.2.2.2⟩
theorem tx_ewvC {C R : pj_G} (h : tx_ER C R) {a k : Nat} {v : Value} (i : pj_Inv (pj_wv C a k v)) (ne : ¬ 2 = a) : tx_ER (pj_wv C a k v) R := ⟨i, h.2.1, by rw [pj_fi_wv_ne _ _ _ _ _ _ (fun z => ne z.1)]; exact h.2.2.1, h.2.2.2.1, by rw [pj_fi_wv_ne _ _ _ _ _ _ (fun z => ne z.1)]; exact h.2.2.2.2⟩
theorem tx_ewaR {C R : pj_G} (h : tx_ER C R) {a j : Nat} {x : Int32} (i : pj_Inv (pj_wa R a j x)) : tx_ER C (pj_wa R a j x) := ⟨h.1, i, by rw [pj_fi_wa]; exact h.2.2.1, by rw [pj_fi_wa, pj_fi_wa]; exact h.2.2.2.1, by rw [pj_fi_wa]; exact h.2.2.2.2⟩
theorem tx_ewvR {C R : pj_G} (h : tx_ER C R) {k : Nat} {v : Value} (i : pj_Inv (pj_wv R 171 k v)) (n1 : ¬ 17 = k) (n2 : ¬ 18 = k) : tx_ER C (pj_wv R 171 k v) := by
  have e1 : pj_fi (pj_wv R 171 k v) 171 17 = pj_fi R 171 17 := pj_fi_wv_ne _ _ _ _ _ _ (fun z => n1 z.2)
  have e2 : pj_fi (pj_wv R 171 k v) 171 18 = pj_fi R 171 18 := pj_fi_wv_ne _ _ _ _ _ _ (fun z => n2 z.2)
  exact ⟨h.1, i, by rw [e1]; exact h.2.2.1, by rw [e1, e2]; exact h.2.2.2.1, by rw [e2]; exact h.2.2.2.2⟩
theorem tx_enb {C R : pj_G} (h : tx_ER C R) : ¬ (pj_fi C 2 4).toInt = -1 := by
  have := tx_r17 h.2.1
  have := h.2.2.1
  omega
/-- an error stays, whatever the class goes on with -/
theorem tx_eC {C R C' : pj_G} (h : tx_ER C R) (i : pj_Inv C') (e : (pj_fi C' 2 4).toInt = (pj_fi C 2 4).toInt ∧ pj_fi C' 2 2 = pj_fi C 2 2) : tx_ER C' R := ⟨i, h.2.1, by rw [e.1]; exact h.2.2.1, h.2.2.2.1, by rw [e.2]; exact h.2.2.2.2⟩
/-! LETTERS -/
theorem tx_87a (C : pj_G) (b : Int32) : F_87x C (Int32.ofInt (-1)) b = F_83x C ((Int8.ofInt 97).toInt32) (((Int8.ofInt 97).toInt32) + b - Int32.ofInt 1) := by
  rw [F_87x_e, pj_b_eqT (show (Int32.ofInt (-1)).toInt = (Int32.ofInt (-1)).toInt from rfl), pj_cT]
  rfl
theorem tx_hi (b : Int32) (rb : (0 : Int) ≤ b.toInt ∧ b.toInt ≤ 8) : (((Int8.ofInt 97).toInt32) + b - Int32.ofInt 1).toInt = 96 + b.toInt := by
  have k1 : (((Int8.ofInt 97).toInt32)).toInt = 97 := by decide
  have k2 : (Int32.ofInt 1).toInt = 1 := by decide
  have s : (((Int8.ofInt 97).toInt32) + b).toInt = 97 + b.toInt := by rw [pj_addI (by omega) (by omega), k1]
  rw [pj_subI (by omega) (by omega), s, k2]
  omega
theorem tx_87d {C : pj_G} (iC : pj_Inv C) (hb : ¬ (pj_fi C 2 4).toInt = -1) (u b : Int32) (ru : (-1 : Int) ≤ u.toInt ∧ u.toInt ≤ 7) (rb : (0 : Int) ≤ b.toInt ∧ b.toInt ≤ 8) : pj_Inv (F_87x C u b).2 ∧ (F_87x C u b).1.toInt = 0 ∧ (pj_fi (F_87x C u b).2 2 4).toInt = (pj_fi C 2 4).toInt ∧ pj_fi (F_87x C u b).2 2 2 = pj_fi C 2 2 := by
  have k1 : (((Int8.ofInt 97).toInt32)).toInt = 97 := by decide
  have hh := tx_hi b rb
  have d := tx_dead iC hb ((Int8.ofInt 97).toInt32) (((Int8.ofInt 97).toInt32) + b - Int32.ofInt 1) (by omega) (by omega)
  have c0 : (Int32.ofInt (-1)).toInt = -1 := by decide
  rw [F_87x_e]
  simp only [pj_nm_x, pj_bd_x]
  by_cases q : u.toInt = -1
  · rw [pj_b_eqT (show u.toInt = (Int32.ofInt (-1)).toInt by omega), pj_cT]
    exact d
  · rw [pj_b_eqF (show ¬ u.toInt = (Int32.ofInt (-1)).toInt by omega), pj_cF]
    have p := (fr_80x C iC).2.2.2 (fun z => hb z.1)
    have s : (((Int8.ofInt 97).toInt32) + u).toInt = 97 + u.toInt := by rw [pj_addI (by omega) (by omega), k1]
    rw [pj_b_neT (show ¬ (F_80x C).toInt = (((Int8.ofInt 97).toInt32) + u).toInt by omega), pj_cT]
    exact d
noncomputable def tx_S (R : pj_G) (y9 y5 many : Int32) : Int32 × pj_G := cond (pj_c1 .ge y9 (pj_fi R 171 18)) (F_188x R many) (cond (pj_c1 .ne (pj_ai R 180 y9.toInt.toNat) (((Int8.ofInt 97).toInt32) + y5)) (F_188x R many) (Int32.ofInt (-1), R))
theorem tx_190 (R many) : F_190x R many = cond (pj_c1 .lt (F_188x R many).1 0) (Int32.ofInt (-1), pj_wv (F_188x R many).2 171 23 (.int (F_188x R many).1)) (tx_S (pj_wv (F_188x R many).2 171 23 (.int (F_188x R many).1)) (pj_fi (F_188x R many).2 171 17) (F_188x R many).1 many) := rfl
theorem tx_87b {C R : pj_G} (h : tx_RD C R) (u b : Int32) (ru : (0 : Int) ≤ u.toInt ∧ u.toInt ≤ 7) (rb : (0 : Int) ≤ b.toInt ∧ b.toInt ≤ 8) : ((F_87x C u b).1.toInt = (tx_S R (pj_fi R 171 17) u b).1.toInt ∧ 0 ≤ (tx_S R (pj_fi R 171 17) u b).1.toInt ∧ tx_RD (F_87x C u b).2 (tx_S R (pj_fi R 171 17) u b).2) ∨ ((tx_S R (pj_fi R 171 17) u b).1.toInt = -1 ∧ tx_ER (F_87x C u b).2 (tx_S R (pj_fi R 171 17) u b).2) := by
  have k1 : (((Int8.ofInt 97).toInt32)).toInt = 97 := by decide
  have cm : (Int32.ofInt (-1)).toInt = -1 := by decide
  have hh := tx_hi b rb
  have l := tx_let h b (((Int8.ofInt 97).toInt32) + b - Int32.ofInt 1) rb hh
  have s : (((Int8.ofInt 97).toInt32) + u).toInt = 97 + u.toInt := by rw [pj_addI (by omega) (by omega), k1]
  have hc := tx_cur h
  have hp := fr_80x C h.1
  have h' := h
  obtain ⟨iC, iR, hb, ha, hm, hle, ht⟩ := h
  rw [F_87x_e]
  unfold tx_S
  simp only [pj_nm_x, pj_bd_x]
  rw [pj_b_eqF (show ¬ u.toInt = (Int32.ofInt (-1)).toInt by omega), pj_cF]
  by_cases q : (pj_fi R 171 17).toInt < (pj_fi R 171 18).toInt
  · have hc := hc q
    have p := hp.2.2.1 ⟨hb, by omega⟩
    rw [pj_b_geF q, pj_cF]
    by_cases q2 : (pj_ai R 180 (pj_fi R 171 17).toInt.toNat).toInt = 97 + u.toInt
    · rw [pj_b_neF (show (F_80x C).toInt = (((Int8.ofInt 97).toInt32) + u).toInt by omega), pj_cF, pj_b_neF (show (pj_ai R 180 (pj_fi R 171 17).toInt.toNat).toInt = (((Int8.ofInt 97).toInt32) + u).toInt by omega), pj_cF]
      right
      refine ⟨cm, ?_⟩
      obtain ⟨i1, k, n1, e1, e2⟩ := fr_81x C iC
      have e1 := e1 hb
      obtain ⟨i2, v2, e3, e4⟩ := tx_dead i1 n1 ((Int8.ofInt 97).toInt32) (((Int8.ofInt 97).toInt32) + b - Int32.ofInt 1) (by omega) (by omega)
      have e5 : (pj_fi (F_83x (F_81x C) ((Int8.ofInt 97).toInt32) (((Int8.ofInt 97).toInt32) + b - Int32.ofInt 1)).2 2 2).toInt = (pj_fi C 2 2).toInt := by rw [e4, k.1 (2, 2) (by decide)]
      exact (show tx_ER (F_83x (F_81x C) ((Int8.ofInt 97).toInt32) (((Int8.ofInt 97).toInt32) + b - Int32.ofInt 1)).2 R from ⟨i2, iR, by omega, by omega, by omega⟩)
    · rw [pj_b_neT (show ¬ (F_80x C).toInt = (((Int8.ofInt 97).toInt32) + u).toInt by omega), pj_cT, pj_b_neT (show ¬ (pj_ai R 180 (pj_fi R 171 17).toInt.toNat).toInt = (((Int8.ofInt 97).toInt32) + u).toInt by omega), pj_cT]
      exact l
  · have p := hp.2.2.2 (by omega)
    rw [pj_b_geT (show (pj_fi R 171 18).toInt ≤ (pj_fi R 171 17).toInt by omega), pj_cT, pj_b_neT (show ¬ (F_80x C).toInt = (((Int8.ofInt 97).toInt32) + u).toInt by omega), pj_cT]
    exact l
theorem tx_86d {C : pj_G} (iC : pj_Inv C) (hb : ¬ (pj_fi C 2 4).toInt = -1) (n : Int32) (rn : (1 : Int) ≤ n.toInt ∧ n.toInt ≤ 3) : pj_Inv (F_86x C n).2 ∧ (F_86x C n).1.toInt = 0 ∧ (pj_fi (F_86x C n).2 2 4).toInt = (pj_fi C 2 4).toInt ∧ pj_fi (F_86x C n).2 2 2 = pj_fi C 2 2 := by
  have k1 : (((Int8.ofInt 48).toInt32)).toInt = 48 := by decide
  have k2 : (((Int8.ofInt 57).toInt32)).toInt = 57 := by decide
  have c1 : (Int32.ofInt 1).toInt = 1 := by decide
  obtain ⟨i1, v1, e1, e2⟩ := tx_dead iC hb ((Int8.ofInt 48).toInt32) ((Int8.ofInt 57).toInt32) (by omega) (by omega)
  have z := (fr_85x (F_83x C ((Int8.ofInt 48).toInt32) ((Int8.ofInt 57).toInt32)).2 i1).2.2 (fun w => hb (by omega))
  rw [F_86x_e]
  simp only [pj_bd_x]
  rw [L_86x_s0 C n 3]
  simp only [pj_nm_x, pj_bd_x]
  by_cases g : n.toInt ≤ (Int32.ofInt 1).toInt
  · rw [pj_b_geT g, pj_cT]
    exact ⟨i1, v1, e1, e2⟩
  · rw [pj_b_geF (show (Int32.ofInt 1).toInt < n.toInt by omega), pj_cF, pj_b0_eqT z, pj_cT]
    exact ⟨i1, v1, e1, e2⟩
theorem tx_82d {C : pj_G} (iC : pj_Inv C) (hb : ¬ (pj_fi C 2 4).toInt = -1) (g : Int32) (rg : (0 : Int) ≤ g.toInt ∧ g.toInt ≤ 255) : pj_Inv (F_82x C g).2 ∧ (F_82x C g).1.toInt = 0 ∧ (pj_fi (F_82x C g).2 2 4).toInt = (pj_fi C 2 4).toInt ∧ pj_fi (F_82x C g).2 2 2 = pj_fi C 2 2 := by
  obtain ⟨i1, k, -, c1, c2, c3⟩ := fr_82x C iC g rg
  exact ⟨i1, (c2 (fun z => hb z.1)).1, c3, k.1 (2, 2) (by decide)⟩
