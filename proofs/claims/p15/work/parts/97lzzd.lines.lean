/-! BRIDGES, PEOPLE: LINES READ IN STEP -/
theorem tx_p1 (C : pj_G) : F_86x C (Int32.ofInt 1) = F_83x C ((Int8.ofInt 48).toInt32) ((Int8.ofInt 57).toInt32) := by
  rw [F_86x_e]
  simp only [pj_bd_x]
  rw [L_86x_s0 C (Int32.ofInt 1) 3, pj_b_geT (show (Int32.ofInt 1).toInt ≤ (Int32.ofInt 1).toInt from Int.le_refl _), pj_cT]
noncomputable def tx_A (b : Int32) (C : pj_G) : pj_G := pj_bd (F_83x C ((Int8.ofInt 49).toInt32) ((Int8.ofInt 57).toInt32)) (fun y31 G32 => pj_nm ((Int32.ofInt 1) + y31) (fun z36 => pj_nm (pj_wa G32 31 b.toInt.toNat z36) (fun G37 => pj_bd (F_83x G37 ((Int8.ofInt 48).toInt32) ((Int8.ofInt 57).toInt32)) (fun y40 G41 => pj_nm (pj_wa G41 24 b.toInt.toNat y40) (fun G45 => pj_nm (pj_wa G45 22 b.toInt.toNat (Int32.ofInt (-1))) (fun G46 => pj_nm (pj_wa G46 23 b.toInt.toNat (Int32.ofInt 0)) (fun G47 => pj_wa G47 25 b.toInt.toNat (Int32.ofInt (-1)))))))))
theorem tx_L91 (C0 : pj_G) (f : Nat) (v2 v3 v4 : Int32) (C : pj_G) : L_91x C0 (f + 1) v2 v3 v4 C = cond (pj_c1 .gt v4 ((Int8.ofInt 6).toInt32)) (v2, C) (cond (pj_c1 .eq v3 0) (v2, C) (cond (pj_c1 .ge v4 ((Int8.ofInt 6).toInt32)) (pj_bd (F_82x (F_81x C) ((Int8.ofInt 59).toInt32)) (fun y20 G21 => L_91x C0 f (v2 + Int32.ofInt 1) y20 (v4 + Int32.ofInt 1) G21)) (pj_bd (F_82x (tx_A v4 C) ((Int8.ofInt 59).toInt32)) (fun y52 G53 => L_91x C0 f (v2 + Int32.ofInt 1) y52 (v4 + Int32.ofInt 1) G53)))) := by
  rw [L_91x_s0]
  unfold tx_A
  simp only [pj_nm_x, pj_bd_x]
theorem tx_i31 {C : pj_G} (iC : pj_Inv C) (j : Nat) (x : Int32) : pj_Inv (pj_wa C 31 j x) ∧ pj_Inv (pj_wa C 24 j x) ∧ pj_Inv (pj_wa C 23 j x) ∧ pj_Inv (pj_wa C 25 j x) := ⟨pj_Inv_wa iC rfl (fun q hq => by cases hq) (fun n hn => by cases hn), pj_Inv_wa iC rfl (fun q hq => by cases hq) (fun n hn => by cases hn), pj_Inv_wa iC rfl (fun q hq => by cases hq) (fun n hn => by cases hn), pj_Inv_wa iC rfl (fun q hq => by cases hq) (fun n hn => by cases hn)⟩
theorem tx_i22c {C : pj_G} (iC : pj_Inv C) (j : Nat) (x : Int32) (hx : -1 ≤ x.toInt ∧ x.toInt ≤ 9) : pj_Inv (pj_wa C 22 j x) := pj_Inv_wa iC rfl (fun q hq => by cases hq; exact ⟨by show (-1 : Int) ≤ _; omega, by show _ ≤ (9 : Int); omega, by show _ ≤ (-1 : Int) ∨ (-1 : Int) ≤ _; omega⟩) (fun n hn => by cases hn)
/-- the writes of a line leave the reading -/
theorem tx_Aw {C R : pj_G} (h : tx_RD C R) (b y : Int32) : tx_RD (pj_wa (pj_wa (pj_wa (pj_wa C 24 b.toInt.toNat y) 22 b.toInt.toNat (Int32.ofInt (-1))) 23 b.toInt.toNat (Int32.ofInt 0)) 25 b.toInt.toNat (Int32.ofInt (-1))) R := by
  have i1 := (tx_i31 h.1 b.toInt.toNat y).2.1
  have i2 := tx_i22c i1 b.toInt.toNat (Int32.ofInt (-1)) (by decide)
  have i3 := (tx_i31 i2 b.toInt.toNat (Int32.ofInt 0)).2.2.1
  have i4 := (tx_i31 i3 b.toInt.toNat (Int32.ofInt (-1))).2.2.2
  exact tx_waC (tx_waC (tx_waC (tx_waC h i1 (by decide)) i2 (by decide)) i3 (by decide)) i4 (by decide)
theorem tx_Ae {C R : pj_G} (h : tx_ER C R) (b y : Int32) : tx_ER (pj_wa (pj_wa (pj_wa (pj_wa C 24 b.toInt.toNat y) 22 b.toInt.toNat (Int32.ofInt (-1))) 23 b.toInt.toNat (Int32.ofInt 0)) 25 b.toInt.toNat (Int32.ofInt (-1))) R := by
  have i1 := (tx_i31 h.1 b.toInt.toNat y).2.1
  have i2 := tx_i22c i1 b.toInt.toNat (Int32.ofInt (-1)) (by decide)
  have i3 := (tx_i31 i2 b.toInt.toNat (Int32.ofInt 0)).2.2.1
  have i4 := (tx_i31 i3 b.toInt.toNat (Int32.ofInt (-1))).2.2.2
  exact tx_ewaC (tx_ewaC (tx_ewaC (tx_ewaC h i1) i2) i3) i4
theorem tx_Ax (b : Int32) (C : pj_G) : tx_A b C = pj_wa (pj_wa (pj_wa (pj_wa (F_83x (pj_wa (F_83x C ((Int8.ofInt 49).toInt32) ((Int8.ofInt 57).toInt32)).2 31 b.toInt.toNat (Int32.ofInt 1 + (F_83x C ((Int8.ofInt 49).toInt32) ((Int8.ofInt 57).toInt32)).1)) ((Int8.ofInt 48).toInt32) ((Int8.ofInt 57).toInt32)).2 24 b.toInt.toNat (F_83x (pj_wa (F_83x C ((Int8.ofInt 49).toInt32) ((Int8.ofInt 57).toInt32)).2 31 b.toInt.toNat (Int32.ofInt 1 + (F_83x C ((Int8.ofInt 49).toInt32) ((Int8.ofInt 57).toInt32)).1)) ((Int8.ofInt 48).toInt32) ((Int8.ofInt 57).toInt32)).1) 22 b.toInt.toNat (Int32.ofInt (-1))) 23 b.toInt.toNat (Int32.ofInt 0)) 25 b.toInt.toNat (Int32.ofInt (-1)) := by
  unfold tx_A
  simp only [pj_nm_x, pj_bd_x]
/-- a line as it was read, on both sides -/
def tx_bd (C R : pj_G) (b m : Nat) : Prop := pj_ai C 31 b = pj_ai R 181 (2 * m) ∧ pj_ai C 24 b = pj_ai R 181 (2 * m + 1) ∧ pj_ai C 22 b = Int32.ofInt (-1) ∧ pj_ai C 23 b = Int32.ofInt 0 ∧ pj_ai C 25 b = Int32.ofInt (-1)
/-- the rows of bridges at a place are the same -/
def tx_bs (C C' : pj_G) (j : Nat) : Prop := pj_ai C' 31 j = pj_ai C 31 j ∧ pj_ai C' 24 j = pj_ai C 24 j ∧ pj_ai C' 22 j = pj_ai C 22 j ∧ pj_ai C' 23 j = pj_ai C 23 j ∧ pj_ai C' 25 j = pj_ai C 25 j
theorem tx_bst {C C1 C2 : pj_G} {j : Nat} (h : tx_bs C C1 j) (g : tx_bs C1 C2 j) : tx_bs C C2 j := ⟨g.1.trans h.1, g.2.1.trans h.2.1, g.2.2.1.trans h.2.2.1, g.2.2.2.1.trans h.2.2.2.1, g.2.2.2.2.trans h.2.2.2.2⟩
theorem tx_bsr (C : pj_G) (j : Nat) : tx_bs C C j := ⟨rfl, rfl, rfl, rfl, rfl⟩
theorem tx_bsk {W : pj_KT} {C C' : pj_G} (k : pj_kpt W C C') (h : W.2.2.all (fun a => !(pj_mN [22, 23, 24, 25, 31] a)) = true) (j : Nat) : tx_bs C C' j := by
  have g : ∀ a : Nat, pj_mN [22, 23, 24, 25, 31] a = true → a ∉ W.2.2 := fun a ha hm => by
    have z := List.all_eq_true.mp h a hm
    rw [ha] at z
    cases z
  exact ⟨k.2.2 31 (g _ rfl) j, k.2.2 24 (g _ rfl) j, k.2.2 22 (g _ rfl) j, k.2.2 23 (g _ rfl) j, k.2.2 25 (g _ rfl) j⟩
theorem tx_bdk {C R C' R' : pj_G} {b m : Nat} (h : tx_bd C R b m) (s : tx_bs C C' b) (r : ∀ j, j < 2 * m + 2 → pj_ai R' 181 j = pj_ai R 181 j) : tx_bd C' R' b m := ⟨by rw [s.1, r _ (by omega)]; exact h.1, by rw [s.2.1, r _ (by omega)]; exact h.2.1, s.2.2.1.trans h.2.2.1, s.2.2.2.1.trans h.2.2.2.1, s.2.2.2.2.trans h.2.2.2.2⟩
theorem tx_Af {C : pj_G} (iC : pj_Inv C) (b : Int32) (j : Nat) (h : j ≠ b.toInt.toNat) : tx_bs C (tx_A b C) j := by
  obtain ⟨i1, k1, -⟩ := fr_83x C iC ((Int8.ofInt 49).toInt32) ((Int8.ofInt 57).toInt32) (by decide) (by decide)
  have i2 := (tx_i31 i1 b.toInt.toNat (Int32.ofInt 1 + (F_83x C ((Int8.ofInt 49).toInt32) ((Int8.ofInt 57).toInt32)).1)).1
  obtain ⟨-, k2, -⟩ := fr_83x _ i2 ((Int8.ofInt 48).toInt32) ((Int8.ofInt 57).toInt32) (by decide) (by decide)
  have s1 := tx_bsk k1 rfl j
  have s2 := tx_bsk k2 rfl j
  have w : ∀ (D : pj_G) (a : Nat) (x : Int32), tx_bs D (pj_wa D a b.toInt.toNat x) j := by
    intro D a x
    have e : ∀ c, pj_ai (pj_wa D a b.toInt.toNat x) c j = pj_ai D c j := fun c => by
      by_cases q : c = a
      · subst q
        exact pj_ai_wa_nj _ _ _ _ _ h
      · exact pj_ai_wa_ne _ _ _ _ _ _ q
    exact ⟨e 31, e 24, e 22, e 23, e 25⟩
  rw [tx_Ax]
  exact tx_bst (tx_bst (tx_bst (tx_bst (tx_bst (tx_bst s1 (w _ _ _)) s2) (w _ _ _)) (w _ _ _)) (w _ _ _)) (w _ _ _)
/-- what a line leaves of the signs read -/
theorem tx_194 {R : pj_G} (iR : pj_Inv R) (is : Int32) (h5 : (pj_fi R 171 5).toInt + (pj_fi R 171 22).toInt ≤ 6) (j : Nat) (h : (j : Int) < 2 * (pj_fi R 171 22).toInt) : pj_ai (F_194_1x R is).2 181 j = pj_ai R 181 j := by
  have k2 : (Int32.ofInt 2).toInt = 2 := by decide
  have k1 : (Int32.ofInt 1).toInt = 1 := by decide
  have r22 := tx_r22 iR
  have sz : (Int32.ofInt 2 * pj_fi R 171 22).toInt = 2 * (pj_fi R 171 22).toInt := pj_mulL k2 (by omega) (by omega)
  have sz1 : (Int32.ofInt 2 * pj_fi R 171 22 + Int32.ofInt 1).toInt = 2 * (pj_fi R 171 22).toInt + 1 := by rw [pj_addI (by omega) (by omega), sz, k1]
  obtain ⟨i1, q1, r1, -⟩ := fr_186_s9x R iR
  have sy : (Int32.ofInt 1 + (F_186_s9x R).1).toInt = 1 + (F_186_s9x R).1.toInt := by rw [pj_addI (by omega) (by omega), k1]
  have i2 := tx_i181 i1 (Int32.ofInt 2 * pj_fi R 171 22).toInt.toNat (Int32.ofInt 1 + (F_186_s9x R).1) (by omega)
  obtain ⟨i3, q3, -⟩ := fr_187ex _ i2 (Int32.ofInt 1) (by decide)
  have e1 : pj_ai (pj_wa (F_186_s9x R).2 181 (Int32.ofInt 2 * pj_fi R 171 22).toInt.toNat (Int32.ofInt 1 + (F_186_s9x R).1)) 181 j = pj_ai R 181 j := by rw [pj_ai_wa_nj _ _ _ _ _ (by omega), q1.2.2 181 (by decide) j]
  have e2 : ∀ (x v : Int32), pj_ai (pj_wv (pj_wa (F_187ex (pj_wa (F_186_s9x R).2 181 (Int32.ofInt 2 * pj_fi R 171 22).toInt.toNat (Int32.ofInt 1 + (F_186_s9x R).1)) (Int32.ofInt 1)).2 181 (Int32.ofInt 2 * pj_fi R 171 22 + Int32.ofInt 1).toInt.toNat x) 171 22 (.int v)) 181 j = pj_ai R 181 j := fun x v => by rw [pj_ai_wv, pj_ai_wa_nj _ _ _ _ _ (by omega), q3.2.2 181 (by decide) j, e1]
  rw [F_194_1x_e]
  simp only [pj_nm_x, pj_bd_x]
  have c2 : ∀ (b : Bool) (p q : Int32 × pj_G), pj_ai p.2 181 j = pj_ai R 181 j → pj_ai q.2 181 j = pj_ai R 181 j → pj_ai (cond b p q).2 181 j = pj_ai R 181 j := by
    intro b p q h1 h2
    cases b
    · exact h2
    · exact h1
  refine c2 _ _ _ ?_ ?_
  · refine c2 _ _ _ ?_ ?_
    · dsimp only
      exact e1
    · refine c2 _ _ _ ?_ ?_
      · refine c2 _ _ _ ?_ ?_
        · dsimp only
          exact e2 _ _
        · dsimp only
          exact e2 _ _
      · dsimp only
        exact e1
  · dsimp only
/-- a line of BRIDGES in step -/
theorem tx_br {C R : pj_G} (h : tx_RD C R) (b is : Int32) (hb : b.toInt = (pj_fi R 171 5).toInt + (pj_fi R 171 22).toInt) (b5 : b.toInt ≤ 5) (rn : (pj_fi R 171 22).toInt ≤ 9) : ((F_194_1x R is).1.toInt = 1 ∧ tx_RD (tx_A b C) (F_194_1x R is).2 ∧ (pj_fi (F_194_1x R is).2 171 22).toInt = (pj_fi R 171 22).toInt + 1 ∧ pj_fi (F_194_1x R is).2 171 5 = pj_fi R 171 5 ∧ tx_bd (tx_A b C) (F_194_1x R is).2 b.toInt.toNat (pj_fi R 171 22).toInt.toNat) ∨ ((F_194_1x R is).1.toInt = 0 ∧ tx_ER (tx_A b C) (F_194_1x R is).2) := by
  have k0 : (Int32.ofInt 0).toInt = 0 := by decide
  have k1 : (Int32.ofInt 1).toInt = 1 := by decide
  have k2 : (Int32.ofInt 2).toInt = 2 := by decide
  have k6 : (((Int8.ofInt 6).toInt32)).toInt = 6 := by decide
  have r22 := tx_r22 h.2.1
  have r5 : (0 : Int) ≤ (pj_fi R 171 5).toInt ∧ (pj_fi R 171 5).toInt ≤ 6 := h.2.1.2.1 171 5 (0, 6) rfl
  have s4 : (pj_fi R 171 5 + pj_fi R 171 22).toInt = b.toInt := by rw [pj_addI (by omega) (by omega)]; omega
  have sz : (Int32.ofInt 2 * pj_fi R 171 22).toInt = 2 * (pj_fi R 171 22).toInt := pj_mulL k2 (by omega) (by omega)
  have sz1 : (Int32.ofInt 2 * pj_fi R 171 22 + Int32.ofInt 1).toInt = 2 * (pj_fi R 171 22).toInt + 1 := by rw [pj_addI (by omega) (by omega), sz, k1]
  rw [tx_Ax, F_194_1x_e]
  simp only [pj_nm_x, pj_bd_x]
  rw [pj_b_neT (show ¬ (pj_fi R 171 5 + pj_fi R 171 22).toInt = (((Int8.ofInt 6).toInt32)).toInt by omega), pj_cT]
  generalize Int32.ofInt 2 * pj_fi R 171 22 = z6 at *
  have t := tx_dig h
  obtain ⟨iR, kR, rR, -, -⟩ := fr_186_s9x R h.2.1
  have a22 : pj_fi (F_186_s9x R).2 171 22 = pj_fi R 171 22 := kR.1 (171, 22) (by decide)
  have a5 : pj_fi (F_186_s9x R).2 171 5 = pj_fi R 171 5 := kR.1 (171, 5) (by decide)
  generalize (F_186_s9x R).2 = R1 at *
  generalize (F_186_s9x R).1 = y at *
  generalize hC1 : (F_83x C ((Int8.ofInt 49).toInt32) ((Int8.ofInt 57).toInt32)).2 = C1 at *
  generalize (F_83x C ((Int8.ofInt 49).toInt32) ((Int8.ofInt 57).toInt32)).1 = x at *
  have sy : (Int32.ofInt 1 + y).toInt = 1 + y.toInt := by rw [pj_addI (by omega) (by omega), k1]
  have i1 := tx_i181 iR z6.toInt.toNat (Int32.ofInt 1 + y) (by omega)
  have ea : pj_ai (pj_wa R1 181 z6.toInt.toNat (Int32.ofInt 1 + y)) 181 z6.toInt.toNat = Int32.ofInt 1 + y := pj_ai_wa_eq iR.1 rfl
  rw [ea]
  have w22 : pj_fi (pj_wa R1 181 z6.toInt.toNat (Int32.ofInt 1 + y)) 171 22 = pj_fi R 171 22 := by rw [pj_fi_wa, a22]
  have w5 : pj_fi (pj_wa R1 181 z6.toInt.toNat (Int32.ofInt 1 + y)) 171 5 = pj_fi R 171 5 := by rw [pj_fi_wa, a5]
  rcases t with ⟨t1, t2, t3⟩ | ⟨t1, t3⟩
  · rw [pj_b0_eqF (show ¬ (Int32.ofInt 1 + y).toInt = 0 by omega), pj_cF, pj_b0_geT (show 0 ≤ (Int32.ofInt 1 + y).toInt by omega), pj_cT]
    have h2 := tx_waC (tx_waR t3 i1 (by decide)) (tx_i31 t3.1 b.toInt.toNat (Int32.ofInt 1 + x)).1 (by decide)
    have u := tx_num h2 (Int32.ofInt 1) (by omega)
    rw [tx_p1] at u
    obtain ⟨iS, kS, rS, xS⟩ := fr_187ex (pj_wa R1 181 z6.toInt.toNat (Int32.ofInt 1 + y)) i1 (Int32.ofInt 1) (by omega)
    have b9 := xS.1 k1
    have b22 : pj_fi (F_187ex (pj_wa R1 181 z6.toInt.toNat (Int32.ofInt 1 + y)) (Int32.ofInt 1)).2 171 22 = pj_fi R 171 22 := by rw [kS.1 (171, 22) (by decide), w22]
    have b5' : pj_fi (F_187ex (pj_wa R1 181 z6.toInt.toNat (Int32.ofInt 1 + y)) (Int32.ofInt 1)).2 171 5 = pj_fi R 171 5 := by rw [kS.1 (171, 5) (by decide), w5]
    generalize (F_187ex (pj_wa R1 181 z6.toInt.toNat (Int32.ofInt 1 + y)) (Int32.ofInt 1)).2 = R2 at *
    generalize (F_187ex (pj_wa R1 181 z6.toInt.toNat (Int32.ofInt 1 + y)) (Int32.ofInt 1)).1 = y2 at *
    have b22' : (pj_fi R2 171 22).toInt = (pj_fi R 171 22).toInt := by rw [b22]
    have s22 : (pj_fi R2 171 22 + Int32.ofInt 1).toInt = (pj_fi R 171 22).toInt + 1 := by rw [pj_addI (by omega) (by omega), k1, b22']
    have j1 := tx_i181 iS (z6 + Int32.ofInt 1).toInt.toNat y2 (by omega)
    have j2 := tx_i22 j1 (pj_fi R2 171 22 + Int32.ofInt 1) (by omega)
    have eb : pj_ai (pj_wv (pj_wa R2 181 (z6 + Int32.ofInt 1).toInt.toNat y2) 171 22 (.int (pj_fi R2 171 22 + Int32.ofInt 1))) 181 (z6 + Int32.ofInt 1).toInt.toNat = y2 := by rw [pj_ai_wv, pj_ai_wa_eq iS.1 rfl]
    have e22 : pj_fi (pj_wv (pj_wa R2 181 (z6 + Int32.ofInt 1).toInt.toNat y2) 171 22 (.int (pj_fi R2 171 22 + Int32.ofInt 1))) 171 22 = pj_fi R2 171 22 + Int32.ofInt 1 := pj_fi_wi j1.1 (ci := 12) rfl _
    have e5 : pj_fi (pj_wv (pj_wa R2 181 (z6 + Int32.ofInt 1).toInt.toNat y2) 171 22 (.int (pj_fi R2 171 22 + Int32.ofInt 1))) 171 5 = pj_fi R 171 5 := by rw [pj_fi_wv_ne _ _ _ _ _ _ (by decide), pj_fi_wa, b5']
    rw [eb]
    rcases u with ⟨u1, u2, u3⟩ | ⟨u1, u3⟩
    · rw [pj_b0_ltF u2, pj_cF]
      obtain ⟨iD, kD, -⟩ := fr_83x (pj_wa C1 31 b.toInt.toNat (Int32.ofInt 1 + x)) (tx_i31 t3.1 b.toInt.toNat (Int32.ofInt 1 + x)).1 ((Int8.ofInt 48).toInt32) ((Int8.ofInt 57).toInt32) (by decide) (by decide)
      have g1 := mr_sa iD.1 (a := 24) rfl b.toInt.toNat (F_83x (pj_wa C1 31 b.toInt.toNat (Int32.ofInt 1 + x)) ((Int8.ofInt 48).toInt32) ((Int8.ofInt 57).toInt32)).1
      have g2 := mr_sa g1 (a := 22) rfl b.toInt.toNat (Int32.ofInt (-1))
      have g3 := mr_sa g2 (a := 23) rfl b.toInt.toNat (Int32.ofInt 0)
      have x1 : 2 * (pj_fi R 171 22).toInt.toNat = z6.toInt.toNat := by omega
      have x2 : 2 * (pj_fi R 171 22).toInt.toNat + 1 = (z6 + Int32.ofInt 1).toInt.toNat := by omega
      refine .inl ⟨k1, tx_Aw (tx_wvR (tx_waR u3 j1 (by decide)) j2 (by decide) (by decide)) b _, by show (pj_fi _ 171 22).toInt = _; rw [e22]; exact s22, e5, ?_, ?_, ?_, ?_, ?_⟩
      · dsimp only
        rw [x1, pj_ai_wa_ne _ _ _ _ _ _ (by decide), pj_ai_wa_ne _ _ _ _ _ _ (by decide), pj_ai_wa_ne _ _ _ _ _ _ (by decide), pj_ai_wa_ne _ _ _ _ _ _ (by decide), kD.2.2 31 (by decide), pj_ai_wa_eq t3.1.1 rfl, pj_ai_wv, pj_ai_wa_nj _ _ _ _ _ (by omega), kS.2.2 181 (by decide), pj_ai_wa_eq iR.1 rfl, Int32.toInt_inj.mp t1]
      · dsimp only
        rw [x2, eb, pj_ai_wa_ne _ _ _ _ _ _ (by decide), pj_ai_wa_ne _ _ _ _ _ _ (by decide), pj_ai_wa_ne _ _ _ _ _ _ (by decide), pj_ai_wa_eq iD.1 rfl]
        exact u1
      · rw [pj_ai_wa_ne _ _ _ _ _ _ (by decide), pj_ai_wa_ne _ _ _ _ _ _ (by decide), pj_ai_wa_eq g1 rfl]
      · rw [pj_ai_wa_ne _ _ _ _ _ _ (by decide), pj_ai_wa_eq g2 rfl]
      · rw [pj_ai_wa_eq g3 rfl]
    · rw [pj_b0_ltT (show y2.toInt < 0 by omega), pj_cT]
      exact .inr ⟨k0, tx_Ae (tx_ewvR (tx_ewaR u3 j1) j2 (by decide) (by decide)) b _⟩
  · rw [pj_b0_eqT (show (Int32.ofInt 1 + y).toInt = 0 by omega), pj_cT]
    have t4 := tx_ewaC (tx_ewaR t3 i1) (tx_i31 t3.1 b.toInt.toNat (Int32.ofInt 1 + x)).1
    obtain ⟨d1, d2, d3, d4⟩ := tx_dead t4.1 (tx_enb t4) ((Int8.ofInt 48).toInt32) ((Int8.ofInt 57).toInt32) (by decide) (by decide)
    exact .inr ⟨k0, tx_Ae (tx_eC t4 d1 ⟨d3, d4⟩) b _⟩
/-- LINES in step, up to where they end -/
theorem tx_L195 (R0 : pj_G) (q : Int32) (g : Nat) (n is more : Int32) (R : pj_G) : L_195_1tx R0 q (g + 1) n is more R = cond (pj_c1 .eq more 0) (F_189x R n ((Int8.ofInt 17).toInt32) is, R) (pj_bd (F_194_1x R q) (fun y15 G16 => cond (pj_c1 .eq y15 0) (L_195_1tx R0 q g n y15 (Int32.ofInt 0) G16) (pj_bd (F_183x G16 ((Int8.ofInt 59).toInt32)) (fun y29 G30 => cond (pj_c1 .eq y29 0) (L_195_1tx R0 q g n y15 (Int32.ofInt 0) G30) (L_195_1tx R0 q g n y15 (Int32.ofInt 1) G30))))) := by
  rw [L_195_1tx_s0]
  simp only [pj_nm_x]
theorem tx_dl6 (C0 : pj_G) (C : pj_G) (f : Nat) (v2 v4 v3 : Int32) (h3 : v3.toInt = 0) : L_91x C0 (f + 1) v2 v3 v4 C = (v2, C) := by
  rw [tx_L91]
  cases pj_c1 .gt v4 ((Int8.ofInt 6).toInt32) with
  | true => rw [pj_cT]
  | false => rw [pj_cF, pj_b0_eqT h3, pj_cT]
/-- what reading lines may write -/
def mr_RB : pj_KT := ([(171, 17), (171, 22)], [171, 181], [181])
theorem tx_dl5 (C0 : pj_G) {C R : pj_G} (h : tx_ER C R) (f : Nat) (v2 v4 v3 : Int32) (h3 : v3.toInt = 0) : tx_ER (L_91x C0 (f + 1) v2 v3 v4 C).2 R ∧ (L_91x C0 (f + 1) v2 v3 v4 C).1 = v2 := by
  rw [tx_L91]
  cases pj_c1 .gt v4 ((Int8.ofInt 6).toInt32) with
  | true =>
    rw [pj_cT]
    exact ⟨h, rfl⟩
  | false =>
    rw [pj_cF, pj_b0_eqT h3, pj_cT]
    exact ⟨h, rfl⟩
set_option maxHeartbeats 4000000 in
theorem tx_brl (C0 R0 : pj_G) (q n : Int32) (hq : (1 : Int) ≤ q.toInt ∧ q.toInt ≤ 1) : ∀ (k fc fr : Nat) (v2 v3 v4 is more : Int32) (C R : pj_G), tx_RD C R → v3.toInt = more.toInt → (more.toInt = 0 ∨ more.toInt = 1) → is.toInt = 1 → (pj_fi R 171 22).toInt = v2.toInt → v4.toInt = (pj_fi R 171 5).toInt + v2.toInt → 0 ≤ v2.toInt → (∀ i : Nat, (i : Int) < v2.toInt → tx_bd C R ((pj_fi R 171 5).toInt.toNat + i) i) → v4.toInt ≤ 6 → v4.toInt + k = 7 → k < fc → k + 2 < fr → ∃ (is' : Int32) (R' : pj_G), L_195_1tx R0 q fr n is more R = (F_189x R' n ((Int8.ofInt 17).toInt32) is', R') ∧ pj_kpt mr_RB R R' ∧ (∀ j : Nat, (j : Int) < (pj_fi R 171 5).toInt → tx_bs C (L_91x C0 fc v2 v3 v4 C).2 j) ∧ ((is'.toInt = 1 ∧ tx_RD (L_91x C0 fc v2 v3 v4 C).2 R' ∧ (L_91x C0 fc v2 v3 v4 C).1.toInt = (pj_fi R' 171 22).toInt ∧ pj_fi R' 171 5 = pj_fi R 171 5 ∧ (∀ i : Nat, (i : Int) < (pj_fi R' 171 22).toInt → tx_bd (L_91x C0 fc v2 v3 v4 C).2 R' ((pj_fi R 171 5).toInt.toNat + i) i)) ∨ (is'.toInt = 0 ∧ tx_ER (L_91x C0 fc v2 v3 v4 C).2 R')) := by
  have k0 : (Int32.ofInt 0).toInt = 0 := by decide
  have k1 : (Int32.ofInt 1).toInt = 1 := by decide
  have k6 : (((Int8.ofInt 6).toInt32)).toInt = 6 := by decide
  have k59 : (((Int8.ofInt 59).toInt32)).toInt = 59 := by decide
  intro k
  induction k with
  | zero =>
    intro fc fr v2 v3 v4 is more C R h hv3 hmo his hm hv hv0 dat h6 hk
    omega
  | succ k ih =>
    intro fc fr v2 v3 v4 is more C R h hv3 hmo his hm hv hv0 dat h6 hk hfc hfr
    obtain ⟨f, rfl⟩ : ∃ z, fc = z + 1 := ⟨fc - 1, by omega⟩
    obtain ⟨g, rfl⟩ : ∃ z, fr = z + 1 := ⟨fr - 1, by omega⟩
    have r22 := tx_r22 h.2.1
    have r5 : (0 : Int) ≤ (pj_fi R 171 5).toInt ∧ (pj_fi R 171 5).toInt ≤ 6 := h.2.1.2.1 171 5 (0, 6) rfl
    have s2 : (v2 + Int32.ofInt 1).toInt = v2.toInt + 1 := by rw [pj_addI (by omega) (by omega), k1]
    have s4 : (v4 + Int32.ofInt 1).toInt = v4.toInt + 1 := by rw [pj_addI (by omega) (by omega), k1]
    rw [tx_L91, tx_L195, pj_b_gtF (show v4.toInt ≤ (((Int8.ofInt 6).toInt32)).toInt by omega), pj_cF]
    by_cases m0 : more.toInt = 0
    · rw [pj_b0_eqT (show v3.toInt = 0 by omega), pj_cT, pj_b0_eqT m0, pj_cT]
      exact ⟨is, R, rfl, pj_kpt_r _ _, fun j _ => tx_bsr _ j, .inl ⟨his, h, by dsimp only; omega, rfl, fun i hi => dat i (by omega)⟩⟩
    · rw [pj_b0_eqF (show ¬ v3.toInt = 0 by omega), pj_cF, pj_b0_eqF m0, pj_cF]
      simp only [pj_bd_x]
      by_cases b6 : v4.toInt = 6
      · rw [pj_b_geT (show (((Int8.ofInt 6).toInt32)).toInt ≤ v4.toInt by omega), pj_cT]
        have sz : (pj_fi R 171 5 + pj_fi R 171 22).toInt = 6 := by rw [pj_addI (by omega) (by omega)]; omega
        have eF : F_194_1x R q = (Int32.ofInt 0, R) := by
          rw [F_194_1x_e]
          simp only [pj_nm_x]
          rw [pj_b_neF (show (pj_fi R 171 5 + pj_fi R 171 22).toInt = (((Int8.ofInt 6).toInt32)).toInt by omega), pj_cF]
        rw [eF]
        dsimp only
        rw [pj_b0_eqT k0, pj_cT]
        obtain ⟨g', rfl⟩ : ∃ z, g = z + 1 := ⟨g - 1, by omega⟩
        rw [tx_L195, pj_b0_eqT k0, pj_cT]
        obtain ⟨i1, kk, n1, e1, e2⟩ := fr_81x C h.1
        have e1 := e1 h.2.2.1
        have l1 : pj_fi (F_81x C) 2 2 = pj_fi C 2 2 := kk.1 (2, 2) (by decide)
        obtain ⟨d1, d2, d3, d4⟩ := tx_82d i1 n1 ((Int8.ofInt 59).toInt32) (by omega)
        obtain ⟨_, _, hb, ha, hm', hle, ht⟩ := h
        have l2 : (pj_fi (F_82x (F_81x C) ((Int8.ofInt 59).toInt32)).2 2 2).toInt = (pj_fi C 2 2).toInt := by rw [d4, l1]
        have er : tx_ER (F_82x (F_81x C) ((Int8.ofInt 59).toInt32)).2 R := ⟨d1, by assumption, by omega, by omega, by omega⟩
        obtain ⟨f', rfl⟩ : ∃ z, f = z + 1 := ⟨f - 1, by omega⟩
        obtain ⟨-, k82, -⟩ := fr_82x (F_81x C) i1 ((Int8.ofInt 59).toInt32) (by omega)
        refine ⟨_, R, rfl, pj_kpt_r _ _, fun j _ => ?_, .inr ⟨k0, (tx_dl5 C0 er f' _ _ _ d2).1⟩⟩
        rw [tx_dl6 C0 _ f' _ _ _ d2]
        dsimp only
        exact tx_bst (tx_bsk kk rfl j) (tx_bsk k82 rfl j)
      · rw [pj_b_geF (show v4.toInt < (((Int8.ofInt 6).toInt32)).toInt by omega), pj_cF]
        obtain ⟨-, k194, -⟩ := fr_194_1x R h.2.1 q hq (by omega)
        rcases tx_br h v4 q (by omega) (by omega) (by omega) with ⟨t1, t2, t3, t4, t5⟩ | ⟨t1, t2⟩
        · rw [pj_b0_eqF (show ¬ (F_194_1x R q).1.toInt = 0 by omega), pj_cF]
          obtain ⟨e, h2⟩ := tx_skip t2 ((Int8.ofInt 59).toInt32) (by omega)
          obtain ⟨iR, kR, rR, -⟩ := fr_183x (F_194_1x R q).2 t2.2.1 ((Int8.ofInt 59).toInt32) (by omega)
          have m1 : pj_fi (F_183x (F_194_1x R q).2 ((Int8.ofInt 59).toInt32)).2 171 22 = pj_fi (F_194_1x R q).2 171 22 := kR.1 (171, 22) (by decide)
          have m5 : pj_fi (F_183x (F_194_1x R q).2 ((Int8.ofInt 59).toInt32)).2 171 5 = pj_fi R 171 5 := by rw [kR.1 (171, 5) (by decide)]; exact t4
          have m1' : (pj_fi (F_183x (F_194_1x R q).2 ((Int8.ofInt 59).toInt32)).2 171 22).toInt = v2.toInt + 1 := by rw [m1]; omega
          have m5' : (pj_fi (F_183x (F_194_1x R q).2 ((Int8.ofInt 59).toInt32)).2 171 5).toInt = (pj_fi R 171 5).toInt := by rw [m5]
          obtain ⟨iA, kA, -⟩ := fr_82x (tx_A v4 C) t2.1 ((Int8.ofInt 59).toInt32) (by omega)
          have kk : pj_kpt mr_RB R (F_183x (F_194_1x R q).2 ((Int8.ofInt 59).toInt32)).2 := pj_kpt_t (pj_kpt_s k194 rfl) (pj_kpt_s kR rfl)
          have fs : ∀ j : Nat, (j : Int) < v4.toInt → tx_bs C (F_82x (tx_A v4 C) ((Int8.ofInt 59).toInt32)).2 j := fun j hj => tx_bst (tx_Af h.1 v4 j (by omega)) (tx_bsk kA rfl j)
          have dat2 : ∀ i : Nat, (i : Int) < v2.toInt + 1 → tx_bd (F_82x (tx_A v4 C) ((Int8.ofInt 59).toInt32)).2 (F_183x (F_194_1x R q).2 ((Int8.ofInt 59).toInt32)).2 ((pj_fi R 171 5).toInt.toNat + i) i := by
            intro i hi
            by_cases qi : (i : Int) = v2.toInt
            · rw [show v4.toInt.toNat = (pj_fi R 171 5).toInt.toNat + i by omega, show (pj_fi R 171 22).toInt.toNat = i by omega] at t5
              exact tx_bdk t5 (tx_bsk kA rfl _) (fun j _ => kR.2.2 181 (by decide) j)
            · exact tx_bdk (dat i (by omega)) (fs _ (by omega)) (fun j hj => (kR.2.2 181 (by decide) j).trans (tx_194 h.2.1 q (by omega) j (by omega)))
          by_cases q0 : (F_183x (F_194_1x R q).2 ((Int8.ofInt 59).toInt32)).1.toInt = 0
          · rw [pj_b0_eqT q0, pj_cT]
            -- no more: one turn on each side
            obtain ⟨g', rfl⟩ : ∃ z, g = z + 1 := ⟨g - 1, by omega⟩
            obtain ⟨f', rfl⟩ : ∃ z, f = z + 1 := ⟨f - 1, by omega⟩
            rw [tx_L195, pj_b0_eqT k0, pj_cT, tx_dl6 C0 _ f' _ _ _ (show (F_82x (tx_A v4 C) ((Int8.ofInt 59).toInt32)).1.toInt = 0 by omega)]
            dsimp only
            exact ⟨_, _, rfl, kk, fun j hj => fs j (by omega), .inl ⟨t1, h2, by omega, m5, fun i hi => dat2 i (by omega)⟩⟩
          · rw [pj_b0_eqF q0, pj_cF]
            obtain ⟨is', R', z1, z2, z3, z4⟩ := ih f g (v2 + Int32.ofInt 1) (F_82x (tx_A v4 C) ((Int8.ofInt 59).toInt32)).1 (v4 + Int32.ofInt 1) (F_194_1x R q).1 (Int32.ofInt 1) _ _ h2 (by omega) (by omega) t1 (by omega) (by omega) (by omega) (fun i hi => by rw [m5]; exact dat2 i (by omega)) (by omega) (by omega) (by omega) (by omega)
            rw [m5] at z3 z4
            exact ⟨is', R', z1, pj_kpt_t kk z2, fun j hj => tx_bst (fs j (by omega)) (z3 j hj), z4⟩
        · rw [pj_b0_eqT t1, pj_cT]
          obtain ⟨g', rfl⟩ : ∃ z, g = z + 1 := ⟨g - 1, by omega⟩
          obtain ⟨f', rfl⟩ : ∃ z, f = z + 1 := ⟨f - 1, by omega⟩
          rw [tx_L195, pj_b0_eqT k0, pj_cT]
          obtain ⟨d1, d2, d3, d4⟩ := tx_82d t2.1 (tx_enb t2) ((Int8.ofInt 59).toInt32) (by omega)
          obtain ⟨-, kA, -⟩ := fr_82x (tx_A v4 C) t2.1 ((Int8.ofInt 59).toInt32) (by omega)
          refine ⟨_, _, rfl, pj_kpt_s k194 rfl, fun j hj => ?_, .inr ⟨t1, (tx_dl5 C0 (tx_eC t2 d1 ⟨d3, d4⟩) f' _ _ _ d2).1⟩⟩
          rw [tx_dl6 C0 _ f' _ _ _ d2]
          dsimp only
          exact tx_bst (tx_Af h.1 v4 j (by omega)) (tx_bsk kA rfl j)
