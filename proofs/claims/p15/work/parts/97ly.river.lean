theorem pj_cTx {α : Type} (a b : α) : cond true a b = a := by rw [pj_cT]
theorem pj_cFx {α : Type} (a b : α) : cond false a b = b := by rw [pj_cF]
/-! THE END OF A READING OF SO MANY SIGNS -/
theorem tx_fault {C R : pj_G} (n mo is : Int32) (rn : (0 : Int) ≤ n.toInt ∧ n.toInt ≤ 80) (rmo : (0 : Int) ≤ mo.toInt ∧ mo.toInt ≤ 80) (hn : (pj_fi C 2 1).toInt = n.toInt) (hl1 : n.toInt ≤ mo.toInt → (pj_fi C 2 2).toInt = n.toInt) (hl2 : mo.toInt ≤ n.toInt → (pj_fi C 2 2).toInt = mo.toInt) (ris : (0 : Int) ≤ is.toInt ∧ is.toInt ≤ 1) (st : (is.toInt = 1 ∧ tx_RD C R) ∨ (is.toInt = 0 ∧ tx_ER C R)) : ((F_88tx C).1.toInt = -1 ∧ (F_189x R n mo is).toInt = 0 ∧ is.toInt = 1) ∨ (¬ (F_88tx C).1.toInt = -1 ∧ 0 ≤ (F_88tx C).1.toInt ∧ (F_189x R n mo is).toInt = -1 - (F_88tx C).1.toInt) := by
  rcases st with ⟨i1, h⟩ | ⟨i0, h⟩
  · obtain ⟨iC, iR, hb, ha, hm, hle, ht⟩ := h
    obtain ⟨-, -, -, -, c1, c2, c3, -⟩ := fr_88tx C iC
    obtain ⟨-, -, o1, o2⟩ := fr_189x R iR n mo is rn rmo ris
    have r := tx_r23 iC
    by_cases q : (pj_fi C 2 3).toInt < (pj_fi C 2 1).toInt
    · have y := c2 ⟨hb, q⟩
      right
      refine ⟨by omega, by omega, ?_⟩
      by_cases ov : mo.toInt < n.toInt ∧ ((1 ≤ is.toInt ∧ (pj_fi R 171 17).toInt = (pj_fi R 171 18).toInt) ∨ mo.toInt ≤ (pj_fi R 171 17).toInt)
      · have := o1 ov
        omega
      · have := (o2 ov).2 (by omega)
        omega
    · have y := c3 ⟨hb, by omega⟩
      left
      refine ⟨y, ?_, i1⟩
      exact (o2 (by omega)).1 ⟨by omega, by omega⟩
  · have nb := tx_enb h
    obtain ⟨iC, iR, hb, hle, hm⟩ := h
    obtain ⟨-, -, -, -, c1, -⟩ := fr_88tx C iC
    obtain ⟨-, -, o1, o2⟩ := fr_189x R iR n mo is rn rmo ris
    have r := tx_r17 iR
    have y := c1 nb
    right
    refine ⟨by omega, by omega, ?_⟩
    by_cases ov : mo.toInt < n.toInt ∧ ((1 ≤ is.toInt ∧ (pj_fi R 171 17).toInt = (pj_fi R 171 18).toInt) ∨ mo.toInt ≤ (pj_fi R 171 17).toInt)
    · have := o1 ov
      omega
    · have := (o2 ov).2 (by omega)
      omega
theorem tx_exf {R0 R : pj_G} (g : Nat) (n is : Int32) (hf : (F_189x R n ((Int8.ofInt 72).toInt32) is).toInt < 0) : (tx_EX R0 g n is R).1 = F_189x R n ((Int8.ofInt 72).toInt32) is := by
  unfold tx_EX
  rw [pj_nm_e, pj_b0_geF hf, pj_cF]
theorem tx_exs {R0 R : pj_G} (iR : pj_Inv R) (g : Nat) (hg : 20 ≤ g) (n is : Int32) (hf : (F_189x R n ((Int8.ofInt 72).toInt32) is).toInt = 0) : (tx_EX R0 g n is R).1 = pj_fi R 171 22 := by
  have k0 : (Int32.ofInt 0).toInt = 0 := by decide
  have r22 := tx_r22 iR
  unfold tx_EX
  simp only [pj_nm_x]
  rw [pj_b0_geT (show 0 ≤ (F_189x R n ((Int8.ofInt 72).toInt32) is).toInt by omega), pj_cT]
  have i3 : pj_Inv (pj_wv R 171 3 (.int (pj_fi R 171 21))) := pj_Inv_wi iR (ci := 12) rfl (fun q hq => by cases hq; exact tx_r21 iR)
  have e : pj_fi (pj_wv (pj_wv R 171 3 (.int (pj_fi R 171 21))) 171 4 (.int (pj_fi R 171 22))) 171 4 = pj_fi R 171 22 := pj_fi_wi i3.1 (ci := 12) rfl _
  refine (tx_cp R0 n is _ 10 g _ _ ?_ ?_ ?_ ?_ (by omega)).trans e
  · omega
  · omega
  · rw [e]
    omega
  · rw [e]
    omega
theorem tx_fvw {G : pj_G} (hS : pj_coks pj_tb G.1 = true) {a ci k : Nat} {l : List Nat} (hk : pj_kd a ci k = some l) (v : Value) : pj_fv (pj_wv G a k v) a k = some v := by
  obtain ⟨fs, w, hg, hw, hok, -⟩ := pj_kd_s hS hk
  rw [pj_wv_eq hg]
  unfold pj_fv
  rw [pj_gp hg]
  have hl := (List.getElem?_eq_some_iff.mp hw).1
  show (fs.set k v)[k]? = some v
  exact List.getElem?_set_self hl
theorem tx_rk2 {b : Nat} (h : pj_rk [7, 14] b = true) : b = 7 ∨ b = 14 := by
  unfold pj_rk at h
  rw [Bool.and_eq_true] at h
  have h1 : (Nat.beq 7 b || (Nat.beq 14 b || false)) = true := h.1
  rw [Bool.or_false, Bool.or_eq_true] at h1
  rcases h1 with e | e
  · exact .inl (Nat.eq_of_beq_eq_true e).symm
  · exact .inr (Nat.eq_of_beq_eq_true e).symm
/-- what river tells behind a reading that went through -/
theorem tx_set_7 {C : pj_G} (iC : pj_Inv C) (hr : pj_rb C 6 1 7 = true) (hf : pj_fv C 6 1 = some (.ref 7)) : pj_rb (F_37x (F_90x C)) 6 0 7 = true ∧ pj_fi (F_37x (F_90x C)) 7 1 = pj_fi C 7 1 := by
  have fr : ∀ D, pj_Inv D → pj_fv (F_37x D) 6 0 = pj_fv D 6 0 ∧ pj_fi (F_37x D) 7 1 = pj_fi D 7 1 := fun D iD => ⟨(fr_37x D iD).2.2.1.2 (6, 0) (by decide), (fr_37x D iD).2.1 (7, 1) (by decide)⟩
  have i90 := (fr_90x C iC).1
  have k : ∀ D, pj_Inv D → pj_fv (F_42_7x D) 6 0 = pj_fv D 6 0 ∧ pj_fi (F_42_7x D) 7 1 = pj_fi D 7 1 := fun D iD => ⟨(fr_42_7x D iD).2.2.1.2 (6, 0) (by decide), (fr_42_7x D iD).2.1 (7, 1) (by decide)⟩
  have st : ∀ b, pj_Inv (pj_wv (pj_wv C 6 0 (.ref 7)) 6 1 (.ref b)) → F_90x C = pj_wv (pj_wv (pj_wv (F_42_7x (pj_wv (pj_wv C 6 0 (.ref 7)) 6 1 (.ref b))) 21 0 (.int (Int32.ofInt 0))) 21 5 (.int (Int32.ofInt 0))) 21 7 (.int (Int32.ofInt 0)) → pj_rb (F_37x (F_90x C)) 6 0 7 = true ∧ pj_fi (F_37x (F_90x C)) 7 1 = pj_fi C 7 1 := by
    intro b iD e
    obtain ⟨f1, f2⟩ := fr _ i90
    obtain ⟨k1, k2⟩ := k _ iD
    have v0 : pj_fv (pj_wv (pj_wv C 6 0 (.ref 7)) 6 1 (.ref b)) 6 0 = some (.ref 7) := by
      rw [pj_fv_wv_ne _ _ _ _ _ _ (by decide)]
      exact tx_fvw iC.1 (ci := 10) rfl _
    have v1 : pj_fv (F_37x (F_90x C)) 6 0 = some (.ref 7) := by
      rw [f1, e, pj_fv_wv_ne _ _ _ _ _ _ (by decide), pj_fv_wv_ne _ _ _ _ _ _ (by decide), pj_fv_wv_ne _ _ _ _ _ _ (by decide), k1, v0]
    refine ⟨pj_rb_t v1, ?_⟩
    rw [f2, e, pj_fi_wv_ne _ _ _ _ _ _ (by decide), pj_fi_wv_ne _ _ _ _ _ _ (by decide), pj_fi_wv_ne _ _ _ _ _ _ (by decide), k2, pj_fi_wv_ne _ _ _ _ _ _ (by decide), pj_fi_wv_ne _ _ _ _ _ _ (by decide)]
  have i60 : pj_Inv (pj_wv C 6 0 (.ref 7)) := pj_Inv_wv iC (ci := 10) rfl rfl rfl
  have rbq : ∀ b, pj_rb (pj_wv (pj_wv C 6 0 (.ref 7)) 6 1 (.ref b)) 6 0 7 = true := by
    intro b
    have v0 : pj_fv (pj_wv (pj_wv C 6 0 (.ref 7)) 6 1 (.ref b)) 6 0 = some (.ref 7) := by
      rw [pj_fv_wv_ne _ _ _ _ _ _ (by decide)]
      exact tx_fvw iC.1 (ci := 10) rfl _
    exact pj_rb_t v0
  cases hq : pj_rb C 6 0 7 with
  | true =>
    refine st 7 (pj_Inv_wv i60 (ci := 10) rfl rfl rfl) ?_
    rw [F_90x_e, hq, hr]
    simp only [pj_nm_x, pj_cTx, pj_cFx]
    rw [rbq 7, pj_cT]
  | false =>
    refine st 14 (pj_Inv_wv i60 (ci := 10) rfl rfl rfl) ?_
    rw [F_90x_e, hq, hr]
    simp only [pj_nm_x, pj_cTx, pj_cFx]
    rw [rbq 14, pj_cT]
theorem tx_fin_7 {C R' : pj_G} (R0 : pj_G) (iC : pj_Inv C) (hf : pj_fv C 6 1 = some (.ref 7)) (g : Nat) (hg : 20 ≤ g) (n is : Int32) (rn : (0 : Int) ≤ n.toInt ∧ n.toInt ≤ 80) (hn : (pj_fi C 2 1).toInt = n.toInt) (hl1 : n.toInt ≤ 72 → (pj_fi C 2 2).toInt = n.toInt) (hl2 : 72 ≤ n.toInt → (pj_fi C 2 2).toInt = 72) (st : (is.toInt = 1 ∧ tx_RD (F_41_7x C) R' ∧ (pj_fi (F_41_7x C) 7 1).toInt = (pj_fi R' 171 22).toInt) ∨ (is.toInt = 0 ∧ tx_ER (F_41_7x C) R')) : (pj_bd (F_88tx (F_41_7x C)) (fun y14 G15 => cond (pj_c1 .eq y14 (Int32.ofInt (-1))) (pj_nm (F_90x G15) (fun G20 => pj_nm (F_37x G20) (fun G25 => cond (pj_rb G25 6 0 7) (pj_nm (pj_fi G25 7 1) (fun y29 => (y29, G25))) (pj_nm (pj_fi G25 14 1) (fun y31 => (y31, G25)))))) (pj_nm (F_162x G15 y14) (fun y34 => (y34, G15))))).1 = (tx_EX R0 g n is R').1 := by
  have cm : (Int32.ofInt (-1)).toInt = -1 := by decide
  obtain ⟨i1, k1⟩ := fr_41_7x C iC
  obtain ⟨i2, k2, r2, -⟩ := fr_88tx (F_41_7x C) i1
  have s1 : (pj_fi (F_41_7x C) 2 1).toInt = n.toInt := by rw [k1.1 (2, 1) (by decide)]; exact hn
  have s2 : (pj_fi (F_41_7x C) 2 2).toInt = (pj_fi C 2 2).toInt := by rw [k1.1 (2, 2) (by decide)]
  have f2 : pj_fv (F_88tx (F_41_7x C)).2 6 1 = some (.ref 7) := by rw [k2.2.1.2 (6, 1) (by decide), k1.2.1.2 (6, 1) (by decide)]; exact hf
  have c2 : pj_fi (F_88tx (F_41_7x C)).2 7 1 = pj_fi (F_41_7x C) 7 1 := k2.1 (7, 1) (by decide)
  have st' : (is.toInt = 1 ∧ tx_RD (F_41_7x C) R') ∨ (is.toInt = 0 ∧ tx_ER (F_41_7x C) R') := by
    rcases st with ⟨a, b, _⟩ | b
    · exact .inl ⟨a, b⟩
    · exact .inr b
  have iR : pj_Inv R' := by
    rcases st' with ⟨_, b⟩ | ⟨_, b⟩
    · exact b.2.1
    · exact b.2.1
  have k72 : (((Int8.ofInt 72).toInt32)).toInt = 72 := by decide
  have ft := tx_fault n ((Int8.ofInt 72).toInt32) is rn (by omega) s1 (by omega) (by omega) (by omega) st'
  simp only [pj_nm_x, pj_bd_x]
  rcases ft with ⟨a1, a2, a3⟩ | ⟨a1, a2, a3⟩
  · rw [pj_b_eqT (show (F_88tx (F_41_7x C)).1.toInt = (Int32.ofInt (-1)).toInt by omega), pj_cT, tx_exs iR g hg n is a2]
    obtain ⟨q1, q2⟩ := tx_set_7 i2 (pj_rb_t f2) f2
    rw [q1, pj_cT]
    dsimp only
    rw [q2, c2]
    rcases st with ⟨_, _, c⟩ | ⟨b, _⟩
    · exact Int32.toInt_inj.mp c
    · omega
  · rw [pj_b_eqF (show ¬ (F_88tx (F_41_7x C)).1.toInt = (Int32.ofInt (-1)).toInt by omega), pj_cF, tx_exf g n is (by omega), F_162x_e, pj_nm_e]
    refine Int32.toInt_inj.mp ?_
    rw [pj_subI (by omega) (by omega), cm, a3]
/-- what river tells behind a reading that went through -/
theorem tx_set_14 {C : pj_G} (iC : pj_Inv C) (hr : pj_rb C 6 1 7 = false) (hf : pj_fv C 6 1 = some (.ref 14)) : pj_rb (F_37x (F_90x C)) 6 0 7 = false ∧ pj_fi (F_37x (F_90x C)) 14 1 = pj_fi C 14 1 := by
  have fr : ∀ D, pj_Inv D → pj_fv (F_37x D) 6 0 = pj_fv D 6 0 ∧ pj_fi (F_37x D) 14 1 = pj_fi D 14 1 := fun D iD => ⟨(fr_37x D iD).2.2.1.2 (6, 0) (by decide), (fr_37x D iD).2.1 (14, 1) (by decide)⟩
  have i90 := (fr_90x C iC).1
  have k : ∀ D, pj_Inv D → pj_fv (F_42_14x D) 6 0 = pj_fv D 6 0 ∧ pj_fi (F_42_14x D) 14 1 = pj_fi D 14 1 := fun D iD => ⟨(fr_42_14x D iD).2.2.1.2 (6, 0) (by decide), (fr_42_14x D iD).2.1 (14, 1) (by decide)⟩
  have st : ∀ b, pj_Inv (pj_wv (pj_wv C 6 0 (.ref 14)) 6 1 (.ref b)) → F_90x C = pj_wv (pj_wv (pj_wv (F_42_14x (pj_wv (pj_wv C 6 0 (.ref 14)) 6 1 (.ref b))) 21 0 (.int (Int32.ofInt 0))) 21 5 (.int (Int32.ofInt 0))) 21 7 (.int (Int32.ofInt 0)) → pj_rb (F_37x (F_90x C)) 6 0 7 = false ∧ pj_fi (F_37x (F_90x C)) 14 1 = pj_fi C 14 1 := by
    intro b iD e
    obtain ⟨f1, f2⟩ := fr _ i90
    obtain ⟨k1, k2⟩ := k _ iD
    have v0 : pj_fv (pj_wv (pj_wv C 6 0 (.ref 14)) 6 1 (.ref b)) 6 0 = some (.ref 14) := by
      rw [pj_fv_wv_ne _ _ _ _ _ _ (by decide)]
      exact tx_fvw iC.1 (ci := 10) rfl _
    have v1 : pj_fv (F_37x (F_90x C)) 6 0 = some (.ref 14) := by
      rw [f1, e, pj_fv_wv_ne _ _ _ _ _ _ (by decide), pj_fv_wv_ne _ _ _ _ _ _ (by decide), pj_fv_wv_ne _ _ _ _ _ _ (by decide), k1, v0]
    refine ⟨pj_rb_f v1 rfl, ?_⟩
    rw [f2, e, pj_fi_wv_ne _ _ _ _ _ _ (by decide), pj_fi_wv_ne _ _ _ _ _ _ (by decide), pj_fi_wv_ne _ _ _ _ _ _ (by decide), k2, pj_fi_wv_ne _ _ _ _ _ _ (by decide), pj_fi_wv_ne _ _ _ _ _ _ (by decide)]
  have i60 : pj_Inv (pj_wv C 6 0 (.ref 14)) := pj_Inv_wv iC (ci := 10) rfl rfl rfl
  have rbq : ∀ b, pj_rb (pj_wv (pj_wv C 6 0 (.ref 14)) 6 1 (.ref b)) 6 0 7 = false := by
    intro b
    have v0 : pj_fv (pj_wv (pj_wv C 6 0 (.ref 14)) 6 1 (.ref b)) 6 0 = some (.ref 14) := by
      rw [pj_fv_wv_ne _ _ _ _ _ _ (by decide)]
      exact tx_fvw iC.1 (ci := 10) rfl _
    exact pj_rb_f v0 rfl
  cases hq : pj_rb C 6 0 7 with
  | true =>
    refine st 7 (pj_Inv_wv i60 (ci := 10) rfl rfl rfl) ?_
    rw [F_90x_e, hq, hr]
    simp only [pj_nm_x, pj_cTx, pj_cFx]
    rw [rbq 7, pj_cF]
  | false =>
    refine st 14 (pj_Inv_wv i60 (ci := 10) rfl rfl rfl) ?_
    rw [F_90x_e, hq, hr]
    simp only [pj_nm_x, pj_cTx, pj_cFx]
    rw [rbq 14, pj_cF]
theorem tx_fin_14 {C R' : pj_G} (R0 : pj_G) (iC : pj_Inv C) (hf : pj_fv C 6 1 = some (.ref 14)) (g : Nat) (hg : 20 ≤ g) (n is : Int32) (rn : (0 : Int) ≤ n.toInt ∧ n.toInt ≤ 80) (hn : (pj_fi C 2 1).toInt = n.toInt) (hl1 : n.toInt ≤ 72 → (pj_fi C 2 2).toInt = n.toInt) (hl2 : 72 ≤ n.toInt → (pj_fi C 2 2).toInt = 72) (st : (is.toInt = 1 ∧ tx_RD (F_41_14x C) R' ∧ (pj_fi (F_41_14x C) 14 1).toInt = (pj_fi R' 171 22).toInt) ∨ (is.toInt = 0 ∧ tx_ER (F_41_14x C) R')) : (pj_bd (F_88tx (F_41_14x C)) (fun y14 G15 => cond (pj_c1 .eq y14 (Int32.ofInt (-1))) (pj_nm (F_90x G15) (fun G20 => pj_nm (F_37x G20) (fun G25 => cond (pj_rb G25 6 0 7) (pj_nm (pj_fi G25 7 1) (fun y29 => (y29, G25))) (pj_nm (pj_fi G25 14 1) (fun y31 => (y31, G25)))))) (pj_nm (F_162x G15 y14) (fun y34 => (y34, G15))))).1 = (tx_EX R0 g n is R').1 := by
  have cm : (Int32.ofInt (-1)).toInt = -1 := by decide
  obtain ⟨i1, k1⟩ := fr_41_14x C iC
  obtain ⟨i2, k2, r2, -⟩ := fr_88tx (F_41_14x C) i1
  have s1 : (pj_fi (F_41_14x C) 2 1).toInt = n.toInt := by rw [k1.1 (2, 1) (by decide)]; exact hn
  have s2 : (pj_fi (F_41_14x C) 2 2).toInt = (pj_fi C 2 2).toInt := by rw [k1.1 (2, 2) (by decide)]
  have f2 : pj_fv (F_88tx (F_41_14x C)).2 6 1 = some (.ref 14) := by rw [k2.2.1.2 (6, 1) (by decide), k1.2.1.2 (6, 1) (by decide)]; exact hf
  have c2 : pj_fi (F_88tx (F_41_14x C)).2 14 1 = pj_fi (F_41_14x C) 14 1 := k2.1 (14, 1) (by decide)
  have st' : (is.toInt = 1 ∧ tx_RD (F_41_14x C) R') ∨ (is.toInt = 0 ∧ tx_ER (F_41_14x C) R') := by
    rcases st with ⟨a, b, _⟩ | b
    · exact .inl ⟨a, b⟩
    · exact .inr b
  have iR : pj_Inv R' := by
    rcases st' with ⟨_, b⟩ | ⟨_, b⟩
    · exact b.2.1
    · exact b.2.1
  have k72 : (((Int8.ofInt 72).toInt32)).toInt = 72 := by decide
  have ft := tx_fault n ((Int8.ofInt 72).toInt32) is rn (by omega) s1 (by omega) (by omega) (by omega) st'
  simp only [pj_nm_x, pj_bd_x]
  rcases ft with ⟨a1, a2, a3⟩ | ⟨a1, a2, a3⟩
  · rw [pj_b_eqT (show (F_88tx (F_41_14x C)).1.toInt = (Int32.ofInt (-1)).toInt by omega), pj_cT, tx_exs iR g hg n is a2]
    obtain ⟨q1, q2⟩ := tx_set_14 i2 (pj_rb_f f2 rfl) f2
    rw [q1, pj_cF]
    dsimp only
    rw [q2, c2]
    rcases st with ⟨_, _, c⟩ | ⟨b, _⟩
    · exact Int32.toInt_inj.mp c
    · omega
  · rw [pj_b_eqF (show ¬ (F_88tx (F_41_14x C)).1.toInt = (Int32.ofInt (-1)).toInt by omega), pj_cF, tx_exf g n is (by omega), F_162x_e, pj_nm_e]
    refine Int32.toInt_inj.mp ?_
    rw [pj_subI (by omega) (by omega), cm, a3]
