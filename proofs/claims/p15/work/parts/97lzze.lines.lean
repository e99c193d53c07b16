/-! PEOPLE: LINES READ IN STEP -/
def tx_pd (C R : pj_G) (b m : Nat) : Prop := pj_ai C 26 b = pj_ai R 181 (2 * m) ∧ pj_ai C 32 b = pj_ai R 181 (2 * m + 1)
def tx_ps (C C' : pj_G) (j : Nat) : Prop := pj_ai C' 26 j = pj_ai C 26 j ∧ pj_ai C' 32 j = pj_ai C 32 j
theorem tx_pst {C C1 C2 : pj_G} {j : Nat} (h : tx_ps C C1 j) (g : tx_ps C1 C2 j) : tx_ps C C2 j := ⟨g.1.trans h.1, g.2.trans h.2⟩
theorem tx_psr (C : pj_G) (j : Nat) : tx_ps C C j := ⟨rfl, rfl⟩
theorem tx_psk {W : pj_KT} {C C' : pj_G} (k : pj_kpt W C C') (h : W.2.2.all (fun a => !(pj_mN [26, 32] a)) = true) (j : Nat) : tx_ps C C' j := by
  have g : ∀ a : Nat, pj_mN [26, 32] a = true → a ∉ W.2.2 := fun a ha hm => by
    have z := List.all_eq_true.mp h a hm
    rw [ha] at z
    cases z
  exact ⟨k.2.2 26 (g _ rfl) j, k.2.2 32 (g _ rfl) j⟩
theorem tx_psw (D : pj_G) (a i j : Nat) (x : Int32) (h : j ≠ i) : tx_ps D (pj_wa D a i x) j := by
  have e : ∀ c, pj_ai (pj_wa D a i x) c j = pj_ai D c j := fun c => by
    by_cases q : c = a
    · subst q
      exact pj_ai_wa_nj _ _ _ _ _ h
    · exact pj_ai_wa_ne _ _ _ _ _ _ q
  exact ⟨e 26, e 32⟩
theorem tx_pdk {C R C' R' : pj_G} {b m : Nat} (h : tx_pd C R b m) (s : tx_ps C C' b) (r : ∀ j, j < 2 * m + 2 → pj_ai R' 181 j = pj_ai R 181 j) : tx_pd C' R' b m := ⟨by rw [s.1, r _ (by omega)]; exact h.1, by rw [s.2, r _ (by omega)]; exact h.2⟩
theorem tx_i26 {C : pj_G} (iC : pj_Inv C) (j : Nat) (x : Int32) (hx : 0 ≤ x.toInt ∧ x.toInt ≤ 7) : pj_Inv (pj_wa C 26 j x) := pj_Inv_wa iC rfl (fun q hq => by cases hq; exact ⟨by show (0 : Int) ≤ _; omega, by show _ ≤ (7 : Int); omega, by show _ ≤ (0 : Int) ∨ (0 : Int) ≤ _; omega⟩) (fun n hn => by cases hn)
theorem tx_i32 {C : pj_G} (iC : pj_Inv C) (j : Nat) (x : Int32) : pj_Inv (pj_wa C 32 j x) := pj_Inv_wa iC rfl (fun q hq => by cases hq) (fun n hn => by cases hn)
/-- the reference's second half of a line -/
noncomputable def tx_q2 (z7 : Int32) (R : pj_G) : Int32 × pj_G := cond (pj_c1 .le (Int32.ofInt 1 + (F_186_s9x R).1) 0) (Int32.ofInt 0, pj_wv (pj_wa (F_186_s9x R).2 181 z7.toInt.toNat (Int32.ofInt 1 + (F_186_s9x R).1)) 171 22 (.int (pj_fi (F_186_s9x R).2 171 22 + Int32.ofInt 1))) (Int32.ofInt 1, pj_wv (pj_wa (F_186_s9x R).2 181 z7.toInt.toNat (Int32.ofInt 1 + (F_186_s9x R).1)) 171 22 (.int (pj_fi (F_186_s9x R).2 171 22 + Int32.ofInt 1)))
theorem tx_q2f {R : pj_G} (iR : pj_Inv R) (z7 : Int32) (j : Nat) (h : j ≠ z7.toInt.toNat) : pj_ai (tx_q2 z7 R).2 181 j = pj_ai R 181 j := by
  obtain ⟨-, k, -⟩ := fr_186_s9x R iR
  have e : ∀ v, pj_ai (pj_wv (pj_wa (F_186_s9x R).2 181 z7.toInt.toNat (Int32.ofInt 1 + (F_186_s9x R).1)) 171 22 (.int v)) 181 j = pj_ai R 181 j := fun v => by rw [pj_ai_wv, pj_ai_wa_nj _ _ _ _ _ h, k.2.2 181 (by decide) j]
  unfold tx_q2
  exact mr_c2 _ (P := fun G => pj_ai G 181 j = pj_ai R 181 j) (e _) (e _)
/-- a line in the reference -/
theorem tx_194e {R : pj_G} (iR : pj_Inv R) (is : Int32) (hn : ¬ (pj_fi R 171 6).toInt + (pj_fi R 171 22).toInt = 6) (h6 : (pj_fi R 171 6).toInt + (pj_fi R 171 22).toInt ≤ 6) : F_194_0x R is = cond (pj_c1 .ge (F_188x R (pj_fi R 171 3)).1 0) (tx_q2 (Int32.ofInt 2 * pj_fi R 171 22 + Int32.ofInt 1) (pj_wa (F_188x R (pj_fi R 171 3)).2 181 (Int32.ofInt 2 * pj_fi R 171 22).toInt.toNat (F_188x R (pj_fi R 171 3)).1)) (Int32.ofInt 0, pj_wa (F_188x R (pj_fi R 171 3)).2 181 (Int32.ofInt 2 * pj_fi R 171 22).toInt.toNat (F_188x R (pj_fi R 171 3)).1) := by
  have k6 : (((Int8.ofInt 6).toInt32)).toInt = 6 := by decide
  have r22 := tx_r22 iR
  have r6 : (0 : Int) ≤ (pj_fi R 171 6).toInt ∧ (pj_fi R 171 6).toInt ≤ 6 := iR.2.1 171 6 (0, 6) rfl
  have rb : (0 : Int) ≤ (pj_fi R 171 3).toInt ∧ (pj_fi R 171 3).toInt ≤ 8 := iR.2.1 171 3 (0, 8) rfl
  have s4 : (pj_fi R 171 6 + pj_fi R 171 22).toInt = (pj_fi R 171 6).toInt + (pj_fi R 171 22).toInt := pj_addI (by omega) (by omega)
  obtain ⟨i1, q1, r1, -⟩ := fr_188x R iR (pj_fi R 171 3) rb
  have i2 := tx_i181 i1 (Int32.ofInt 2 * pj_fi R 171 22).toInt.toNat (F_188x R (pj_fi R 171 3)).1 (by omega)
  have e1 : pj_ai (pj_wa (F_188x R (pj_fi R 171 3)).2 181 (Int32.ofInt 2 * pj_fi R 171 22).toInt.toNat (F_188x R (pj_fi R 171 3)).1) 181 (Int32.ofInt 2 * pj_fi R 171 22).toInt.toNat = (F_188x R (pj_fi R 171 3)).1 := pj_ai_wa_eq i1.1 rfl
  obtain ⟨i3, q3, -⟩ := fr_186_s9x _ i2
  have e2 : ∀ (z x v : Int32), pj_ai (pj_wv (pj_wa (F_186_s9x (pj_wa (F_188x R (pj_fi R 171 3)).2 181 (Int32.ofInt 2 * pj_fi R 171 22).toInt.toNat (F_188x R (pj_fi R 171 3)).1)).2 181 z.toInt.toNat x) 171 22 (.int v)) 181 z.toInt.toNat = x := fun z x v => by rw [pj_ai_wv, pj_ai_wa_eq i3.1 rfl]
  rw [F_194_0x_e]
  unfold tx_q2
  simp only [pj_nm_x, pj_bd_x]
  rw [pj_b_neT (show ¬ (pj_fi R 171 6 + pj_fi R 171 22).toInt = (((Int8.ofInt 6).toInt32)).toInt by omega), pj_cT, e1, e2]
theorem tx_194f {R : pj_G} (iR : pj_Inv R) (is : Int32) (h6 : (pj_fi R 171 6).toInt + (pj_fi R 171 22).toInt ≤ 5) (j : Nat) (h : (j : Int) < 2 * (pj_fi R 171 22).toInt) : pj_ai (F_194_0x R is).2 181 j = pj_ai R 181 j := by
  have k2 : (Int32.ofInt 2).toInt = 2 := by decide
  have k1 : (Int32.ofInt 1).toInt = 1 := by decide
  have r22 := tx_r22 iR
  have r6 : (0 : Int) ≤ (pj_fi R 171 6).toInt ∧ (pj_fi R 171 6).toInt ≤ 6 := iR.2.1 171 6 (0, 6) rfl
  have rb : (0 : Int) ≤ (pj_fi R 171 3).toInt ∧ (pj_fi R 171 3).toInt ≤ 8 := iR.2.1 171 3 (0, 8) rfl
  have sz : (Int32.ofInt 2 * pj_fi R 171 22).toInt = 2 * (pj_fi R 171 22).toInt := pj_mulL k2 (by omega) (by omega)
  have sz1 : (Int32.ofInt 2 * pj_fi R 171 22 + Int32.ofInt 1).toInt = 2 * (pj_fi R 171 22).toInt + 1 := by rw [pj_addI (by omega) (by omega), sz, k1]
  obtain ⟨i1, q1, r1, -⟩ := fr_188x R iR (pj_fi R 171 3) rb
  have i2 := tx_i181 i1 (Int32.ofInt 2 * pj_fi R 171 22).toInt.toNat (F_188x R (pj_fi R 171 3)).1 (by omega)
  have e : pj_ai (pj_wa (F_188x R (pj_fi R 171 3)).2 181 (Int32.ofInt 2 * pj_fi R 171 22).toInt.toNat (F_188x R (pj_fi R 171 3)).1) 181 j = pj_ai R 181 j := by rw [pj_ai_wa_nj _ _ _ _ _ (by omega), q1.2.2 181 (by decide) j]
  rw [tx_194e iR is (by omega) (by omega)]
  exact mr_c2 _ (P := fun G => pj_ai G 181 j = pj_ai R 181 j) ((tx_q2f i2 _ j (by omega)).trans e) e
theorem tx_L195p (R0 : pj_G) (q : Int32) (g : Nat) (n is more : Int32) (R : pj_G) : L_195_0tx R0 q (g + 1) n is more R = cond (pj_c1 .eq more 0) (F_189x R n ((Int8.ofInt 17).toInt32) is, R) (pj_bd (F_194_0x R q) (fun y15 G16 => cond (pj_c1 .eq y15 0) (L_195_0tx R0 q g n y15 (Int32.ofInt 0) G16) (pj_bd (F_183x G16 ((Int8.ofInt 59).toInt32)) (fun y29 G30 => cond (pj_c1 .eq y29 0) (L_195_0tx R0 q g n y15 (Int32.ofInt 0) G30) (L_195_0tx R0 q g n y15 (Int32.ofInt 1) G30))))) := by
  rw [L_195_0tx_s0]
  simp only [pj_nm_x]
theorem tx_dl7 (C0 : pj_G) (C : pj_G) (f : Nat) (v2 v4 v3 : Int32) (h3 : v3.toInt = 0) : L_92x C0 (f + 1) v2 v3 v4 C = (v2, C) := by
  rw [L_92x_s0]
  cases pj_c1 .gt v4 ((Int8.ofInt 6).toInt32) with
  | true => rw [pj_cT]
  | false => rw [pj_cF, pj_b0_eqT h3, pj_cT]
/-! a line of PEOPLE (the river at cell 7) -/
noncomputable def tx_P_7 (b : Int32) (C : pj_G) : pj_G := pj_bd (F_87x C (Int32.ofInt (-1)) (pj_fi C 7 0)) (fun y33 G34 => pj_bd (F_83x (pj_wa G34 26 b.toInt.toNat y33) ((Int8.ofInt 49).toInt32) ((Int8.ofInt 57).toInt32)) (fun y41 G42 => pj_wa G42 32 b.toInt.toNat (Int32.ofInt 1 + y41)))
theorem tx_Px_7 (b : Int32) (C : pj_G) : tx_P_7 b C = pj_wa (F_83x (pj_wa (F_87x C (Int32.ofInt (-1)) (pj_fi C 7 0)).2 26 b.toInt.toNat (F_87x C (Int32.ofInt (-1)) (pj_fi C 7 0)).1) ((Int8.ofInt 49).toInt32) ((Int8.ofInt 57).toInt32)).2 32 b.toInt.toNat (Int32.ofInt 1 + (F_83x (pj_wa (F_87x C (Int32.ofInt (-1)) (pj_fi C 7 0)).2 26 b.toInt.toNat (F_87x C (Int32.ofInt (-1)) (pj_fi C 7 0)).1) ((Int8.ofInt 49).toInt32) ((Int8.ofInt 57).toInt32)).1) := by
  unfold tx_P_7
  simp only [pj_bd_x]
/-- the second half: a WEIGHT -/
theorem tx_pe2_7 {C R : pj_G} (h : tx_RD C R) (b z7 : Int32) (rn : (pj_fi R 171 22).toInt ≤ 9) (p : Int32 × pj_G) (hp : p = cond (pj_c1 .le (Int32.ofInt 1 + (F_186_s9x R).1) 0) (Int32.ofInt 0, pj_wv (pj_wa (F_186_s9x R).2 181 z7.toInt.toNat (Int32.ofInt 1 + (F_186_s9x R).1)) 171 22 (.int (pj_fi (F_186_s9x R).2 171 22 + Int32.ofInt 1))) (Int32.ofInt 1, pj_wv (pj_wa (F_186_s9x R).2 181 z7.toInt.toNat (Int32.ofInt 1 + (F_186_s9x R).1)) 171 22 (.int (pj_fi (F_186_s9x R).2 171 22 + Int32.ofInt 1)))) : (p.1.toInt = 1 ∧ tx_RD (pj_wa (F_83x C ((Int8.ofInt 49).toInt32) ((Int8.ofInt 57).toInt32)).2 32 b.toInt.toNat (Int32.ofInt 1 + (F_83x C ((Int8.ofInt 49).toInt32) ((Int8.ofInt 57).toInt32)).1)) p.2 ∧ (pj_fi p.2 171 22).toInt = (pj_fi R 171 22).toInt + 1 ∧ pj_fi p.2 171 6 = pj_fi R 171 6 ∧ pj_fi p.2 171 3 = pj_fi R 171 3 ∧ pj_ai (pj_wa (F_83x C ((Int8.ofInt 49).toInt32) ((Int8.ofInt 57).toInt32)).2 32 b.toInt.toNat (Int32.ofInt 1 + (F_83x C ((Int8.ofInt 49).toInt32) ((Int8.ofInt 57).toInt32)).1)) 32 b.toInt.toNat = pj_ai p.2 181 z7.toInt.toNat) ∨ (p.1.toInt = 0 ∧ tx_ER (pj_wa (F_83x C ((Int8.ofInt 49).toInt32) ((Int8.ofInt 57).toInt32)).2 32 b.toInt.toNat (Int32.ofInt 1 + (F_83x C ((Int8.ofInt 49).toInt32) ((Int8.ofInt 57).toInt32)).1)) p.2) := by
  have k0 : (Int32.ofInt 0).toInt = 0 := by decide
  have k1 : (Int32.ofInt 1).toInt = 1 := by decide
  have r22 := tx_r22 h.2.1
  obtain ⟨iR, kR, rR, -, -⟩ := fr_186_s9x R h.2.1
  have a22 : pj_fi (F_186_s9x R).2 171 22 = pj_fi R 171 22 := kR.1 (171, 22) (by decide)
  have a6 : pj_fi (F_186_s9x R).2 171 6 = pj_fi R 171 6 := kR.1 (171, 6) (by decide)
  have a3 : pj_fi (F_186_s9x R).2 171 3 = pj_fi R 171 3 := kR.1 (171, 3) (by decide)
  have a22' : (pj_fi (F_186_s9x R).2 171 22).toInt = (pj_fi R 171 22).toInt := by rw [a22]
  have sy : (Int32.ofInt 1 + (F_186_s9x R).1).toInt = 1 + (F_186_s9x R).1.toInt := by rw [pj_addI (by omega) (by omega), k1]
  have s22 : (pj_fi (F_186_s9x R).2 171 22 + Int32.ofInt 1).toInt = (pj_fi R 171 22).toInt + 1 := by rw [pj_addI (by omega) (by omega), k1, a22']
  have i1 := tx_i181 iR z7.toInt.toNat (Int32.ofInt 1 + (F_186_s9x R).1) (by omega)
  have i2 := tx_i22 i1 (pj_fi (F_186_s9x R).2 171 22 + Int32.ofInt 1) (by omega)
  have e22 : pj_fi (pj_wv (pj_wa (F_186_s9x R).2 181 z7.toInt.toNat (Int32.ofInt 1 + (F_186_s9x R).1)) 171 22 (.int (pj_fi (F_186_s9x R).2 171 22 + Int32.ofInt 1))) 171 22 = pj_fi (F_186_s9x R).2 171 22 + Int32.ofInt 1 := pj_fi_wi i1.1 (ci := 12) rfl _
  have e6 : pj_fi (pj_wv (pj_wa (F_186_s9x R).2 181 z7.toInt.toNat (Int32.ofInt 1 + (F_186_s9x R).1)) 171 22 (.int (pj_fi (F_186_s9x R).2 171 22 + Int32.ofInt 1))) 171 6 = pj_fi R 171 6 := by rw [pj_fi_wv_ne _ _ _ _ _ _ (by decide), pj_fi_wa, a6]
  have e3 : pj_fi (pj_wv (pj_wa (F_186_s9x R).2 181 z7.toInt.toNat (Int32.ofInt 1 + (F_186_s9x R).1)) 171 22 (.int (pj_fi (F_186_s9x R).2 171 22 + Int32.ofInt 1))) 171 3 = pj_fi R 171 3 := by rw [pj_fi_wv_ne _ _ _ _ _ _ (by decide), pj_fi_wa, a3]
  have iw : ∀ (D : pj_G) (x : Int32), pj_Inv D → pj_Inv (pj_wa D 32 b.toInt.toNat x) := fun D x iD => pj_Inv_wa iD rfl (fun q hq => by cases hq) (fun n hn => by cases hn)
  rcases tx_dig h with ⟨t1, t2, t3⟩ | ⟨t1, t3⟩
  · rw [pj_b0_leF (show 0 < (Int32.ofInt 1 + (F_186_s9x R).1).toInt by omega), pj_cF] at hp
    subst hp
    exact .inl ⟨k1, tx_waC (tx_wvR (tx_waR t3 i1 (by decide)) i2 (by decide) (by decide)) (iw _ _ t3.1) (by decide), by dsimp only; rw [e22]; exact s22, e6, e3, by dsimp only; rw [pj_ai_wv, pj_ai_wa_eq iR.1 rfl, pj_ai_wa_eq t3.1.1 rfl, Int32.toInt_inj.mp t1]⟩
  · rw [pj_b0_leT (show (Int32.ofInt 1 + (F_186_s9x R).1).toInt ≤ 0 by omega), pj_cT] at hp
    subst hp
    exact .inr ⟨k0, tx_ewaC (tx_ewvR (tx_ewaR t3 i1) i2 (by decide) (by decide)) (iw _ _ t3.1)⟩
/-- a line of PEOPLE in step -/
theorem tx_pe_7 {C R : pj_G} (h : tx_RD C R) (b is : Int32) (hb : b.toInt = (pj_fi R 171 6).toInt + (pj_fi R 171 22).toInt) (b5 : b.toInt ≤ 5) (hk : pj_fi C 7 0 = pj_fi R 171 3) : ((F_194_0x R is).1.toInt = 1 ∧ tx_RD (tx_P_7 b C) (F_194_0x R is).2 ∧ (pj_fi (F_194_0x R is).2 171 22).toInt = (pj_fi R 171 22).toInt + 1 ∧ pj_fi (F_194_0x R is).2 171 6 = pj_fi R 171 6 ∧ pj_fi (F_194_0x R is).2 171 3 = pj_fi R 171 3 ∧ tx_pd (tx_P_7 b C) (F_194_0x R is).2 b.toInt.toNat (pj_fi R 171 22).toInt.toNat) ∨ ((F_194_0x R is).1.toInt = 0 ∧ tx_ER (tx_P_7 b C) (F_194_0x R is).2) := by
  have k0 : (Int32.ofInt 0).toInt = 0 := by decide
  have k1 : (Int32.ofInt 1).toInt = 1 := by decide
  have k2 : (Int32.ofInt 2).toInt = 2 := by decide
  have cm : (Int32.ofInt (-1)).toInt = -1 := by decide
  have r22 := tx_r22 h.2.1
  have r6 : (0 : Int) ≤ (pj_fi R 171 6).toInt ∧ (pj_fi R 171 6).toInt ≤ 6 := h.2.1.2.1 171 6 (0, 6) rfl
  have rb : (0 : Int) ≤ (pj_fi R 171 3).toInt ∧ (pj_fi R 171 3).toInt ≤ 8 := h.2.1.2.1 171 3 (0, 8) rfl
  have sz : (Int32.ofInt 2 * pj_fi R 171 22).toInt = 2 * (pj_fi R 171 22).toInt := pj_mulL k2 (by omega) (by omega)
  have sz1 : (Int32.ofInt 2 * pj_fi R 171 22 + Int32.ofInt 1).toInt = 2 * (pj_fi R 171 22).toInt + 1 := by rw [pj_addI (by omega) (by omega), sz, k1]
  have l := tx_let h (pj_fi R 171 3) (((Int8.ofInt 97).toInt32) + pj_fi R 171 3 - Int32.ofInt 1) rb (tx_hi _ rb)
  rw [← tx_87a] at l
  obtain ⟨iR, kR, rR, -⟩ := fr_188x R h.2.1 (pj_fi R 171 3) rb
  obtain ⟨iF, kF, rF, -⟩ := fr_87x C h.1 (Int32.ofInt (-1)) (pj_fi R 171 3) (by omega) rb
  have a22 : pj_fi (F_188x R (pj_fi R 171 3)).2 171 22 = pj_fi R 171 22 := kR.1 (171, 22) (by decide)
  have a6 : pj_fi (F_188x R (pj_fi R 171 3)).2 171 6 = pj_fi R 171 6 := kR.1 (171, 6) (by decide)
  have a3 : pj_fi (F_188x R (pj_fi R 171 3)).2 171 3 = pj_fi R 171 3 := kR.1 (171, 3) (by decide)
  rw [tx_194e h.2.1 is (by omega) (by omega), tx_Px_7, hk]
  generalize hR1 : (F_188x R (pj_fi R 171 3)).2 = R1 at *
  generalize hy : (F_188x R (pj_fi R 171 3)).1 = y at *
  generalize hC1 : (F_87x C (Int32.ofInt (-1)) (pj_fi R 171 3)).2 = C1 at *
  generalize hx : (F_87x C (Int32.ofInt (-1)) (pj_fi R 171 3)).1 = x at *
  generalize Int32.ofInt 2 * pj_fi R 171 22 = z6 at *
  have i1 := tx_i181 iR z6.toInt.toNat y (by omega)
  have j1 := tx_i26 iF b.toInt.toNat x (by omega)
  have w22 : pj_fi (pj_wa R1 181 z6.toInt.toNat y) 171 22 = pj_fi R 171 22 := by rw [pj_fi_wa, a22]
  have w6 : pj_fi (pj_wa R1 181 z6.toInt.toNat y) 171 6 = pj_fi R 171 6 := by rw [pj_fi_wa, a6]
  have w3 : pj_fi (pj_wa R1 181 z6.toInt.toNat y) 171 3 = pj_fi R 171 3 := by rw [pj_fi_wa, a3]
  rcases l with ⟨t1, t2, t3⟩ | ⟨t1, t3⟩
  · rw [pj_b0_geT t2, pj_cT]
    have u := tx_pe2_7 (tx_waC (tx_waR t3 i1 (by decide)) j1 (by decide)) b (z6 + Int32.ofInt 1) (by rw [w22]; omega) (tx_q2 (z6 + Int32.ofInt 1) (pj_wa R1 181 z6.toInt.toNat y)) rfl
    rw [w22, w6, w3] at u
    rcases u with ⟨u1, u2, u3, u4, u5, u6⟩ | u
    · obtain ⟨-, kD, -⟩ := fr_83x (pj_wa C1 26 b.toInt.toNat x) j1 ((Int8.ofInt 49).toInt32) ((Int8.ofInt 57).toInt32) (by decide) (by decide)
      have d1 := (tx_q2f i1 (z6 + Int32.ofInt 1) z6.toInt.toNat (by omega)).trans (pj_ai_wa_eq iR.1 rfl)
      refine .inl ⟨u1, u2, u3, u4, u5, ?_, ?_⟩
      · rw [show 2 * (pj_fi R 171 22).toInt.toNat = z6.toInt.toNat by omega, d1, pj_ai_wa_ne _ _ _ _ _ _ (by decide), kD.2.2 26 (by decide), pj_ai_wa_eq t3.1.1 rfl]
        exact Int32.toInt_inj.mp t1
      · rw [show 2 * (pj_fi R 171 22).toInt.toNat + 1 = (z6 + Int32.ofInt 1).toInt.toNat by omega]
        exact u6
    · exact .inr u
  · rw [pj_b0_geF (show y.toInt < 0 by omega), pj_cF]
    have t4 := tx_ewaC (tx_ewaR t3 i1) j1
    obtain ⟨d1, d2, d3, d4⟩ := tx_dead t4.1 (tx_enb t4) ((Int8.ofInt 49).toInt32) ((Int8.ofInt 57).toInt32) (by decide) (by decide)
    exact .inr ⟨k0, tx_ewaC (tx_eC t4 d1 ⟨d3, d4⟩) (tx_i32 d1 _ _)⟩
theorem tx_Pf_7 {C : pj_G} (iC : pj_Inv C) (b : Int32) (j : Nat) (h : j ≠ b.toInt.toNat) : tx_ps C (tx_P_7 b C) j := by
  have rb : (0 : Int) ≤ (pj_fi C 7 0).toInt ∧ (pj_fi C 7 0).toInt ≤ 8 := iC.2.1 7 0 (0, 8) rfl
  obtain ⟨iF, kF, rF, -⟩ := fr_87x C iC (Int32.ofInt (-1)) (pj_fi C 7 0) (by decide) rb
  obtain ⟨-, kD, -⟩ := fr_83x _ (tx_i26 iF b.toInt.toNat (F_87x C (Int32.ofInt (-1)) (pj_fi C 7 0)).1 (by omega)) ((Int8.ofInt 49).toInt32) ((Int8.ofInt 57).toInt32) (by decide) (by decide)
  rw [tx_Px_7]
  exact tx_pst (tx_pst (tx_pst (tx_psk kF rfl j) (tx_psw _ _ _ _ _ h)) (tx_psk kD rfl j)) (tx_psw _ _ _ _ _ h)
theorem tx_Pk_7 {C : pj_G} (iC : pj_Inv C) (b : Int32) : pj_fv (tx_P_7 b C) 6 0 = pj_fv C 6 0 ∧ pj_fi (tx_P_7 b C) 7 0 = pj_fi C 7 0 := by
  have rb : (0 : Int) ≤ (pj_fi C 7 0).toInt ∧ (pj_fi C 7 0).toInt ≤ 8 := iC.2.1 7 0 (0, 8) rfl
  obtain ⟨iF, kF, rF, -⟩ := fr_87x C iC (Int32.ofInt (-1)) (pj_fi C 7 0) (by decide) rb
  obtain ⟨-, kD, -⟩ := fr_83x _ (tx_i26 iF b.toInt.toNat (F_87x C (Int32.ofInt (-1)) (pj_fi C 7 0)).1 (by omega)) ((Int8.ofInt 49).toInt32) ((Int8.ofInt 57).toInt32) (by decide) (by decide)
  rw [tx_Px_7]
  exact ⟨by rw [pj_fv_wa, kD.2.1.2 (6, 0) (by decide), pj_fv_wa, kF.2.1.2 (6, 0) (by decide)], by rw [pj_fi_wa, kD.1 (7, 0) (by decide), pj_fi_wa, kF.1 (7, 0) (by decide)]⟩
theorem tx_L92_7 (C0 : pj_G) (f : Nat) (v2 v3 v4 : Int32) (C : pj_G) (hv : pj_fv C 6 0 = some (.ref 7)) : L_92x C0 (f + 1) v2 v3 v4 C = cond (pj_c1 .gt v4 ((Int8.ofInt 6).toInt32)) (v2, C) (cond (pj_c1 .eq v3 0) (v2, C) (cond (pj_c1 .ge v4 ((Int8.ofInt 6).toInt32)) (pj_bd (F_82x (F_81x C) ((Int8.ofInt 59).toInt32)) (fun y20 G21 => L_92x C0 f (v2 + Int32.ofInt 1) y20 (v4 + Int32.ofInt 1) G21)) (pj_bd (F_82x (tx_P_7 v4 C) ((Int8.ofInt 59).toInt32)) (fun y52 G53 => L_92x C0 f (v2 + Int32.ofInt 1) y52 (v4 + Int32.ofInt 1) G53)))) := by
  rw [L_92x_s0, show pj_rb C 6 0 7 = true from pj_rb_t hv, pj_cT]
  unfold tx_P_7
  simp only [pj_nm_x, pj_bd_x]
set_option maxHeartbeats 4000000 in
theorem tx_pel_7 (C0 R0 : pj_G) (q n : Int32) (hq : (0 : Int) ≤ q.toInt ∧ q.toInt ≤ 0) : ∀ (k fc fr : Nat) (v2 v3 v4 is more : Int32) (C R : pj_G), tx_RD C R → pj_fv C 6 0 = some (.ref 7) → pj_fi C 7 0 = pj_fi R 171 3 → v3.toInt = more.toInt → (more.toInt = 0 ∨ more.toInt = 1) → is.toInt = 1 → (pj_fi R 171 22).toInt = v2.toInt → v4.toInt = (pj_fi R 171 6).toInt + v2.toInt → 0 ≤ v2.toInt → (∀ i : Nat, (i : Int) < v2.toInt → tx_pd C R ((pj_fi R 171 6).toInt.toNat + i) i) → v4.toInt ≤ 6 → v4.toInt + k = 7 → k < fc → k + 2 < fr → ∃ (is' : Int32) (R' : pj_G), L_195_0tx R0 q fr n is more R = (F_189x R' n ((Int8.ofInt 17).toInt32) is', R') ∧ pj_kpt mr_RB R R' ∧ (∀ j : Nat, (j : Int) < (pj_fi R 171 6).toInt → tx_ps C (L_92x C0 fc v2 v3 v4 C).2 j) ∧ ((is'.toInt = 1 ∧ tx_RD (L_92x C0 fc v2 v3 v4 C).2 R' ∧ (L_92x C0 fc v2 v3 v4 C).1.toInt = (pj_fi R' 171 22).toInt ∧ pj_fi R' 171 6 = pj_fi R 171 6 ∧ (∀ i : Nat, (i : Int) < (pj_fi R' 171 22).toInt → tx_pd (L_92x C0 fc v2 v3 v4 C).2 R' ((pj_fi R 171 6).toInt.toNat + i) i)) ∨ (is'.toInt = 0 ∧ tx_ER (L_92x C0 fc v2 v3 v4 C).2 R')) := by
  have k0 : (Int32.ofInt 0).toInt = 0 := by decide
  have k1 : (Int32.ofInt 1).toInt = 1 := by decide
  have k6 : (((Int8.ofInt 6).toInt32)).toInt = 6 := by decide
  have k59 : (((Int8.ofInt 59).toInt32)).toInt = 59 := by decide
  intro k
  induction k with
  | zero =>
    intro fc fr v2 v3 v4 is more C R h hv hkb hv3 hmo his hm hvv hv0 dat h6 hk
    omega
  | succ k ih =>
    intro fc fr v2 v3 v4 is more C R h hv hkb hv3 hmo his hm hvv hv0 dat h6 hk hfc hfr
    obtain ⟨f, rfl⟩ : ∃ z, fc = z + 1 := ⟨fc - 1, by omega⟩
    obtain ⟨g, rfl⟩ : ∃ z, fr = z + 1 := ⟨fr - 1, by omega⟩
    have r22 := tx_r22 h.2.1
    have r6 : (0 : Int) ≤ (pj_fi R 171 6).toInt ∧ (pj_fi R 171 6).toInt ≤ 6 := h.2.1.2.1 171 6 (0, 6) rfl
    have s2 : (v2 + Int32.ofInt 1).toInt = v2.toInt + 1 := by rw [pj_addI (by omega) (by omega), k1]
    have s4 : (v4 + Int32.ofInt 1).toInt = v4.toInt + 1 := by rw [pj_addI (by omega) (by omega), k1]
    rw [tx_L92_7 C0 f v2 v3 v4 C hv, tx_L195p, pj_b_gtF (show v4.toInt ≤ (((Int8.ofInt 6).toInt32)).toInt by omega), pj_cF]
    by_cases m0 : more.toInt = 0
    · rw [pj_b0_eqT (show v3.toInt = 0 by omega), pj_cT, pj_b0_eqT m0, pj_cT]
      exact ⟨is, R, rfl, pj_kpt_r _ _, fun j _ => tx_psr _ j, .inl ⟨his, h, by dsimp only; omega, rfl, fun i hi => dat i (by omega)⟩⟩
    · rw [pj_b0_eqF (show ¬ v3.toInt = 0 by omega), pj_cF, pj_b0_eqF m0, pj_cF]
      simp only [pj_bd_x]
      by_cases b6 : v4.toInt = 6
      · rw [pj_b_geT (show (((Int8.ofInt 6).toInt32)).toInt ≤ v4.toInt by omega), pj_cT]
        have sz : (pj_fi R 171 6 + pj_fi R 171 22).toInt = 6 := by rw [pj_addI (by omega) (by omega)]; omega
        have eF : F_194_0x R q = (Int32.ofInt 0, R) := by
          rw [F_194_0x_e]
          simp only [pj_nm_x]
          rw [pj_b_neF (show (pj_fi R 171 6 + pj_fi R 171 22).toInt = (((Int8.ofInt 6).toInt32)).toInt by omega), pj_cF]
        rw [eF]
        dsimp only
        rw [pj_b0_eqT k0, pj_cT]
        obtain ⟨g', rfl⟩ : ∃ z, g = z + 1 := ⟨g - 1, by omega⟩
        rw [tx_L195p, pj_b0_eqT k0, pj_cT]
        obtain ⟨i1, kk, n1, e1, e2⟩ := fr_81x C h.1
        have e1 := e1 h.2.2.1
        have l1 : pj_fi (F_81x C) 2 2 = pj_fi C 2 2 := kk.1 (2, 2) (by decide)
        obtain ⟨d1, d2, d3, d4⟩ := tx_82d i1 n1 ((Int8.ofInt 59).toInt32) (by omega)
        obtain ⟨_, _, hb, ha, hm', hle, ht⟩ := h
        have l2 : (pj_fi (F_82x (F_81x C) ((Int8.ofInt 59).toInt32)).2 2 2).toInt = (pj_fi C 2 2).toInt := by rw [d4, l1]
        have er : tx_ER (F_82x (F_81x C) ((Int8.ofInt 59).toInt32)).2 R := ⟨d1, by assumption, by omega, by omega, by omega⟩
        obtain ⟨f', rfl⟩ : ∃ z, f = z + 1 := ⟨f - 1, by omega⟩
        obtain ⟨-, k82, -⟩ := fr_82x (F_81x C) i1 ((Int8.ofInt 59).toInt32) (by omega)
        rw [tx_dl7 C0 _ f' _ _ _ d2]
        dsimp only
        exact ⟨_, R, rfl, pj_kpt_r _ _, fun j _ => tx_pst (tx_psk kk rfl j) (tx_psk k82 rfl j), .inr ⟨k0, er⟩⟩
      · rw [pj_b_geF (show v4.toInt < (((Int8.ofInt 6).toInt32)).toInt by omega), pj_cF]
        obtain ⟨-, k194, -⟩ := fr_194_0x R h.2.1 q hq (by omega)
        obtain ⟨pv, pb⟩ := tx_Pk_7 h.1 v4
        rcases tx_pe_7 h v4 q (by omega) (by omega) hkb with ⟨t1, t2, t3, t4, t4b, t5⟩ | ⟨t1, t2⟩
        · rw [pj_b0_eqF (show ¬ (F_194_0x R q).1.toInt = 0 by omega), pj_cF]
          obtain ⟨e, h2⟩ := tx_skip t2 ((Int8.ofInt 59).toInt32) (by omega)
          obtain ⟨iR, kR, rR, -⟩ := fr_183x (F_194_0x R q).2 t2.2.1 ((Int8.ofInt 59).toInt32) (by omega)
          have m1 : pj_fi (F_183x (F_194_0x R q).2 ((Int8.ofInt 59).toInt32)).2 171 22 = pj_fi (F_194_0x R q).2 171 22 := kR.1 (171, 22) (by decide)
          have m5 : pj_fi (F_183x (F_194_0x R q).2 ((Int8.ofInt 59).toInt32)).2 171 6 = pj_fi R 171 6 := by rw [kR.1 (171, 6) (by decide)]; exact t4
          have m3 : pj_fi (F_183x (F_194_0x R q).2 ((Int8.ofInt 59).toInt32)).2 171 3 = pj_fi R 171 3 := by rw [kR.1 (171, 3) (by decide)]; exact t4b
          have m1' : (pj_fi (F_183x (F_194_0x R q).2 ((Int8.ofInt 59).toInt32)).2 171 22).toInt = v2.toInt + 1 := by rw [m1]; omega
          have m5' : (pj_fi (F_183x (F_194_0x R q).2 ((Int8.ofInt 59).toInt32)).2 171 6).toInt = (pj_fi R 171 6).toInt := by rw [m5]
          obtain ⟨iA, kA, -⟩ := fr_82x (tx_P_7 v4 C) t2.1 ((Int8.ofInt 59).toInt32) (by omega)
          have pv2 : pj_fv (F_82x (tx_P_7 v4 C) ((Int8.ofInt 59).toInt32)).2 6 0 = some (.ref 7) := (kA.2.1.2 (6, 0) (by decide)).trans (pv.trans hv)
          have pb2 : pj_fi (F_82x (tx_P_7 v4 C) ((Int8.ofInt 59).toInt32)).2 7 0 = pj_fi (F_183x (F_194_0x R q).2 ((Int8.ofInt 59).toInt32)).2 171 3 := by rw [kA.1 (7, 0) (by decide), pb, m3]; exact hkb
          have kk : pj_kpt mr_RB R (F_183x (F_194_0x R q).2 ((Int8.ofInt 59).toInt32)).2 := pj_kpt_t (pj_kpt_s k194 rfl) (pj_kpt_s kR rfl)
          have fs : ∀ j : Nat, (j : Int) < v4.toInt → tx_ps C (F_82x (tx_P_7 v4 C) ((Int8.ofInt 59).toInt32)).2 j := fun j hj => tx_pst (tx_Pf_7 h.1 v4 j (by omega)) (tx_psk kA rfl j)
          have dat2 : ∀ i : Nat, (i : Int) < v2.toInt + 1 → tx_pd (F_82x (tx_P_7 v4 C) ((Int8.ofInt 59).toInt32)).2 (F_183x (F_194_0x R q).2 ((Int8.ofInt 59).toInt32)).2 ((pj_fi R 171 6).toInt.toNat + i) i := by
            intro i hi
            by_cases qi : (i : Int) = v2.toInt
            · rw [show v4.toInt.toNat = (pj_fi R 171 6).toInt.toNat + i by omega, show (pj_fi R 171 22).toInt.toNat = i by omega] at t5
              exact tx_pdk t5 (tx_psk kA rfl _) (fun j _ => kR.2.2 181 (by decide) j)
            · exact tx_pdk (dat i (by omega)) (fs _ (by omega)) (fun j hj => (kR.2.2 181 (by decide) j).trans (tx_194f h.2.1 q (by omega) j (by omega)))
          by_cases q0 : (F_183x (F_194_0x R q).2 ((Int8.ofInt 59).toInt32)).1.toInt = 0
          · rw [pj_b0_eqT q0, pj_cT]
            obtain ⟨g', rfl⟩ : ∃ z, g = z + 1 := ⟨g - 1, by omega⟩
            obtain ⟨f', rfl⟩ : ∃ z, f = z + 1 := ⟨f - 1, by omega⟩
            rw [tx_L195p, pj_b0_eqT k0, pj_cT, tx_dl7 C0 _ f' _ _ _ (show (F_82x (tx_P_7 v4 C) ((Int8.ofInt 59).toInt32)).1.toInt = 0 by omega)]
            dsimp only
            exact ⟨_, _, rfl, kk, fun j hj => fs j (by omega), .inl ⟨t1, h2, by omega, m5, fun i hi => dat2 i (by omega)⟩⟩
          · rw [pj_b0_eqF q0, pj_cF]
            obtain ⟨is', R', z1, z2, z3, z4⟩ := ih f g (v2 + Int32.ofInt 1) (F_82x (tx_P_7 v4 C) ((Int8.ofInt 59).toInt32)).1 (v4 + Int32.ofInt 1) (F_194_0x R q).1 (Int32.ofInt 1) _ _ h2 pv2 pb2 (by omega) (by omega) t1 (by omega) (by omega) (by omega) (fun i hi => by rw [m5]; exact dat2 i (by omega)) (by omega) (by omega) (by omega) (by omega)
            rw [m5] at z3 z4
            exact ⟨is', R', z1, pj_kpt_t kk z2, fun j hj => tx_pst (fs j (by omega)) (z3 j hj), z4⟩
        · rw [pj_b0_eqT t1, pj_cT]
          obtain ⟨g', rfl⟩ : ∃ z, g = z + 1 := ⟨g - 1, by omega⟩
          obtain ⟨f', rfl⟩ : ∃ z, f = z + 1 := ⟨f - 1, by omega⟩
          rw [tx_L195p, pj_b0_eqT k0, pj_cT]
          obtain ⟨d1, d2, d3, d4⟩ := tx_82d t2.1 (tx_enb t2) ((Int8.ofInt 59).toInt32) (by omega)
          obtain ⟨-, kA, -⟩ := fr_82x (tx_P_7 v4 C) t2.1 ((Int8.ofInt 59).toInt32) (by omega)
          rw [tx_dl7 C0 _ f' _ _ _ d2]
          dsimp only
          exact ⟨_, _, rfl, pj_kpt_s k194 rfl, fun j hj => tx_pst (tx_Pf_7 h.1 v4 j (by omega)) (tx_psk kA rfl j), .inr ⟨t1, tx_eC t2 d1 ⟨d3, d4⟩⟩⟩
/-! a line of PEOPLE (the river at cell 14) -/
noncomputable def tx_P_14 (b : Int32) (C : pj_G) : pj_G := pj_bd (F_87x C (Int32.ofInt (-1)) (pj_fi C 14 0)) (fun y33 G34 => pj_bd (F_83x (pj_wa G34 26 b.toInt.toNat y33) ((Int8.ofInt 49).toInt32) ((Int8.ofInt 57).toInt32)) (fun y41 G42 => pj_wa G42 32 b.toInt.toNat (Int32.ofInt 1 + y41)))
theorem tx_Px_14 (b : Int32) (C : pj_G) : tx_P_14 b C = pj_wa (F_83x (pj_wa (F_87x C (Int32.ofInt (-1)) (pj_fi C 14 0)).2 26 b.toInt.toNat (F_87x C (Int32.ofInt (-1)) (pj_fi C 14 0)).1) ((Int8.ofInt 49).toInt32) ((Int8.ofInt 57).toInt32)).2 32 b.toInt.toNat (Int32.ofInt 1 + (F_83x (pj_wa (F_87x C (Int32.ofInt (-1)) (pj_fi C 14 0)).2 26 b.toInt.toNat (F_87x C (Int32.ofInt (-1)) (pj_fi C 14 0)).1) ((Int8.ofInt 49).toInt32) ((Int8.ofInt 57).toInt32)).1) := by
  unfold tx_P_14
  simp only [pj_bd_x]
/-- the second half: a WEIGHT -/
theorem tx_pe2_14 {C R : pj_G} (h : tx_RD C R) (b z7 : Int32) (rn : (pj_fi R 171 22).toInt ≤ 9) (p : Int32 × pj_G) (hp : p = cond (pj_c1 .le (Int32.ofInt 1 + (F_186_s9x R).1) 0) (Int32.ofInt 0, pj_wv (pj_wa (F_186_s9x R).2 181 z7.toInt.toNat (Int32.ofInt 1 + (F_186_s9x R).1)) 171 22 (.int (pj_fi (F_186_s9x R).2 171 22 + Int32.ofInt 1))) (Int32.ofInt 1, pj_wv (pj_wa (F_186_s9x R).2 181 z7.toInt.toNat (Int32.ofInt 1 + (F_186_s9x R).1)) 171 22 (.int (pj_fi (F_186_s9x R).2 171 22 + Int32.ofInt 1)))) : (p.1.toInt = 1 ∧ tx_RD (pj_wa (F_83x C ((Int8.ofInt 49).toInt32) ((Int8.ofInt 57).toInt32)).2 32 b.toInt.toNat (Int32.ofInt 1 + (F_83x C ((Int8.ofInt 49).toInt32) ((Int8.ofInt 57).toInt32)).1)) p.2 ∧ (pj_fi p.2 171 22).toInt = (pj_fi R 171 22).toInt + 1 ∧ pj_fi p.2 171 6 = pj_fi R 171 6 ∧ pj_fi p.2 171 3 = pj_fi R 171 3 ∧ pj_ai (pj_wa (F_83x C ((Int8.ofInt 49).toInt32) ((Int8.ofInt 57).toInt32)).2 32 b.toInt.toNat (Int32.ofInt 1 + (F_83x C ((Int8.ofInt 49).toInt32) ((Int8.ofInt 57).toInt32)).1)) 32 b.toInt.toNat = pj_ai p.2 181 z7.toInt.toNat) ∨ (p.1.toInt = 0 ∧ tx_ER (pj_wa (F_83x C ((Int8.ofInt 49).toInt32) ((Int8.ofInt 57).toInt32)).2 32 b.toInt.toNat (Int32.ofInt 1 + (F_83x C ((Int8.ofInt 49).toInt32) ((Int8.ofInt 57).toInt32)).1)) p.2) := by
  have k0 : (Int32.ofInt 0).toInt = 0 := by decide
  have k1 : (Int32.ofInt 1).toInt = 1 := by decide
  have r22 := tx_r22 h.2.1
  obtain ⟨iR, kR, rR, -, -⟩ := fr_186_s9x R h.2.1
  have a22 : pj_fi (F_186_s9x R).2 171 22 = pj_fi R 171 22 := kR.1 (171, 22) (by decide)
  have a6 : pj_fi (F_186_s9x R).2 171 6 = pj_fi R 171 6 := kR.1 (171, 6) (by decide)
  have a3 : pj_fi (F_186_s9x R).2 171 3 = pj_fi R 171 3 := kR.1 (171, 3) (by decide)
  have a22' : (pj_fi (F_186_s9x R).2 171 22).toInt = (pj_fi R 171 22).toInt := by rw [a22]
  have sy : (Int32.ofInt 1 + (F_186_s9x R).1).toInt = 1 + (F_186_s9x R).1.toInt := by rw [pj_addI (by omega) (by omega), k1]
  have s22 : (pj_fi (F_186_s9x R).2 171 22 + Int32.ofInt 1).toInt = (pj_fi R 171 22).toInt + 1 := by rw [pj_addI (by omega) (by omega), k1, a22']
  have i1 := tx_i181 iR z7.toInt.toNat (Int32.ofInt 1 + (F_186_s9x R).1) (by omega)
  have i2 := tx_i22 i1 (pj_fi (F_186_s9x R).2 171 22 + Int32.ofInt 1) (by omega)
  have e22 : pj_fi (pj_wv (pj_wa (F_186_s9x R).2 181 z7.toInt.toNat (Int32.ofInt 1 + (F_186_s9x R).1)) 171 22 (.int (pj_fi (F_186_s9x R).2 171 22 + Int32.ofInt 1))) 171 22 = pj_fi (F_186_s9x R).2 171 22 + Int32.ofInt 1 := pj_fi_wi i1.1 (ci := 12) rfl _
  have e6 : pj_fi (pj_wv (pj_wa (F_186_s9x R).2 181 z7.toInt.toNat (Int32.ofInt 1 + (F_186_s9x R).1)) 171 22 (.int (pj_fi (F_186_s9x R).2 171 22 + Int32.ofInt 1))) 171 6 = pj_fi R 171 6 := by rw [pj_fi_wv_ne _ _ _ _ _ _ (by decide), pj_fi_wa, a6]
  have e3 : pj_fi (pj_wv (pj_wa (F_186_s9x R).2 181 z7.toInt.toNat (Int32.ofInt 1 + (F_186_s9x R).1)) 171 22 (.int (pj_fi (F_186_s9x R).2 171 22 + Int32.ofInt 1))) 171 3 = pj_fi R 171 3 := by rw [pj_fi_wv_ne _ _ _ _ _ _ (by decide), pj_fi_wa, a3]
  have iw : ∀ (D : pj_G) (x : Int32), pj_Inv D → pj_Inv (pj_wa D 32 b.toInt.toNat x) := fun D x iD => pj_Inv_wa iD rfl (fun q hq => by cases hq) (fun n hn => by cases hn)
  rcases tx_dig h with ⟨t1, t2, t3⟩ | ⟨t1, t3⟩
  · rw [pj_b0_leF (show 0 < (Int32.ofInt 1 + (F_186_s9x R).1).toInt by omega), pj_cF] at hp
    subst hp
    exact .inl ⟨k1, tx_waC (tx_wvR (tx_waR t3 i1 (by decide)) i2 (by decide) (by decide)) (iw _ _ t3.1) (by decide), by dsimp only; rw [e22]; exact s22, e6, e3, by dsimp only; rw [pj_ai_wv, pj_ai_wa_eq iR.1 rfl, pj_ai_wa_eq t3.1.1 rfl, Int32.toInt_inj.mp t1]⟩
  · rw [pj_b0_leT (show (Int32.ofInt 1 + (F_186_s9x R).1).toInt ≤ 0 by omega), pj_cT] at hp
    subst hp
    exact .inr ⟨k0, tx_ewaC (tx_ewvR (tx_ewaR t3 i1) i2 (by decide) (by decide)) (iw _ _ t3.1)⟩
/-- a line of PEOPLE in step -/
theorem tx_pe_14 {C R : pj_G} (h : tx_RD C R) (b is : Int32) (hb : b.toInt = (pj_fi R 171 6).toInt + (pj_fi R 171 22).toInt) (b5 : b.toInt ≤ 5) (hk : pj_fi C 14 0 = pj_fi R 171 3) : ((F_194_0x R is).1.toInt = 1 ∧ tx_RD (tx_P_14 b C) (F_194_0x R is).2 ∧ (pj_fi (F_194_0x R is).2 171 22).toInt = (pj_fi R 171 22).toInt + 1 ∧ pj_fi (F_194_0x R is).2 171 6 = pj_fi R 171 6 ∧ pj_fi (F_194_0x R is).2 171 3 = pj_fi R 171 3 ∧ tx_pd (tx_P_14 b C) (F_194_0x R is).2 b.toInt.toNat (pj_fi R 171 22).toInt.toNat) ∨ ((F_194_0x R is).1.toInt = 0 ∧ tx_ER (tx_P_14 b C) (F_194_0x R is).2) := by
  have k0 : (Int32.ofInt 0).toInt = 0 := by decide
  have k1 : (Int32.ofInt 1).toInt = 1 := by decide
  have k2 : (Int32.ofInt 2).toInt = 2 := by decide
  have cm : (Int32.ofInt (-1)).toInt = -1 := by decide
  have r22 := tx_r22 h.2.1
  have r6 : (0 : Int) ≤ (pj_fi R 171 6).toInt ∧ (pj_fi R 171 6).toInt ≤ 6 := h.2.1.2.1 171 6 (0, 6) rfl
  have rb : (0 : Int) ≤ (pj_fi R 171 3).toInt ∧ (pj_fi R 171 3).toInt ≤ 8 := h.2.1.2.1 171 3 (0, 8) rfl
  have sz : (Int32.ofInt 2 * pj_fi R 171 22).toInt = 2 * (pj_fi R 171 22).toInt := pj_mulL k2 (by omega) (by omega)
  have sz1 : (Int32.ofInt 2 * pj_fi R 171 22 + Int32.ofInt 1).toInt = 2 * (pj_fi R 171 22).toInt + 1 := by rw [pj_addI (by omega) (by omega), sz, k1]
  have l := tx_let h (pj_fi R 171 3) (((Int8.ofInt 97).toInt32) + pj_fi R 171 3 - Int32.ofInt 1) rb (tx_hi _ rb)
  rw [← tx_87a] at l
  obtain ⟨iR, kR, rR, -⟩ := fr_188x R h.2.1 (pj_fi R 171 3) rb
  obtain ⟨iF, kF, rF, -⟩ := fr_87x C h.1 (Int32.ofInt (-1)) (pj_fi R 171 3) (by omega) rb
  have a22 : pj_fi (F_188x R (pj_fi R 171 3)).2 171 22 = pj_fi R 171 22 := kR.1 (171, 22) (by decide)
  have a6 : pj_fi (F_188x R (pj_fi R 171 3)).2 171 6 = pj_fi R 171 6 := kR.1 (171, 6) (by decide)
  have a3 : pj_fi (F_188x R (pj_fi R 171 3)).2 171 3 = pj_fi R 171 3 := kR.1 (171, 3) (by decide)
  rw [tx_194e h.2.1 is (by omega) (by omega), tx_Px_14, hk]
  generalize hR1 : (F_188x R (pj_fi R 171 3)).2 = R1 at *
  generalize hy : (F_188x R (pj_fi R 171 3)).1 = y at *
  generalize hC1 : (F_87x C (Int32.ofInt (-1)) (pj_fi R 171 3)).2 = C1 at *
  generalize hx : (F_87x C (Int32.ofInt (-1)) (pj_fi R 171 3)).1 = x at *
  generalize Int32.ofInt 2 * pj_fi R 171 22 = z6 at *
  have i1 := tx_i181 iR z6.toInt.toNat y (by omega)
  have j1 := tx_i26 iF b.toInt.toNat x (by omega)
  have w22 : pj_fi (pj_wa R1 181 z6.toInt.toNat y) 171 22 = pj_fi R 171 22 := by rw [pj_fi_wa, a22]
  have w6 : pj_fi (pj_wa R1 181 z6.toInt.toNat y) 171 6 = pj_fi R 171 6 := by rw [pj_fi_wa, a6]
  have w3 : pj_fi (pj_wa R1 181 z6.toInt.toNat y) 171 3 = pj_fi R 171 3 := by rw [pj_fi_wa, a3]
  rcases l with ⟨t1, t2, t3⟩ | ⟨t1, t3⟩
  · rw [pj_b0_geT t2, pj_cT]
    have u := tx_pe2_14 (tx_waC (tx_waR t3 i1 (by decide)) j1 (by decide)) b (z6 + Int32.ofInt 1) (by rw [w22]; omega) (tx_q2 (z6 + Int32.ofInt 1) (pj_wa R1 181 z6.toInt.toNat y)) rfl
    rw [w22, w6, w3] at u
    rcases u with ⟨u1, u2, u3, u4, u5, u6⟩ | u
    · obtain ⟨-, kD, -⟩ := fr_83x (pj_wa C1 26 b.toInt.toNat x) j1 ((Int8.ofInt 49).toInt32) ((Int8.ofInt 57).toInt32) (by decide) (by decide)
      have d1 := (tx_q2f i1 (z6 + Int32.ofInt 1) z6.toInt.toNat (by omega)).trans (pj_ai_wa_eq iR.1 rfl)
      refine .inl ⟨u1, u2, u3, u4, u5, ?_, ?_⟩
      · rw [show 2 * (pj_fi R 171 22).toInt.toNat = z6.toInt.toNat by omega, d1, pj_ai_wa_ne _ _ _ _ _ _ (by decide), kD.2.2 26 (by decide), pj_ai_wa_eq t3.1.1 rfl]
        exact Int32.toInt_inj.mp t1
      · rw [show 2 * (pj_fi R 171 22).toInt.toNat + 1 = (z6 + Int32.ofInt 1).toInt.toNat by omega]
        exact u6
    · exact .inr u
  · rw [pj_b0_geF (show y.toInt < 0 by omega), pj_cF]
    have t4 := tx_ewaC (tx_ewaR t3 i1) j1
    obtain ⟨d1, d2, d3, d4⟩ := tx_dead t4.1 (tx_enb t4) ((Int8.ofInt 49).toInt32) ((Int8.ofInt 57).toInt32) (by decide) (by decide)
    exact .inr ⟨k0, tx_ewaC (tx_eC t4 d1 ⟨d3, d4⟩) (tx_i32 d1 _ _)⟩
theorem tx_Pf_14 {C : pj_G} (iC : pj_Inv C) (b : Int32) (j : Nat) (h : j ≠ b.toInt.toNat) : tx_ps C (tx_P_14 b C) j := by
  have rb : (0 : Int) ≤ (pj_fi C 14 0).toInt ∧ (pj_fi C 14 0).toInt ≤ 8 := iC.2.1 14 0 (0, 8) rfl
  obtain ⟨iF, kF, rF, -⟩ := fr_87x C iC (Int32.ofInt (-1)) (pj_fi C 14 0) (by decide) rb
  obtain ⟨-, kD, -⟩ := fr_83x _ (tx_i26 iF b.toInt.toNat (F_87x C (Int32.ofInt (-1)) (pj_fi C 14 0)).1 (by omega)) ((Int8.ofInt 49).toInt32) ((Int8.ofInt 57).toInt32) (by decide) (by decide)
  rw [tx_Px_14]
  exact tx_pst (tx_pst (tx_pst (tx_psk kF rfl j) (tx_psw _ _ _ _ _ h)) (tx_psk kD rfl j)) (tx_psw _ _ _ _ _ h)
theorem tx_Pk_14 {C : pj_G} (iC : pj_Inv C) (b : Int32) : pj_fv (tx_P_14 b C) 6 0 = pj_fv C 6 0 ∧ pj_fi (tx_P_14 b C) 14 0 = pj_fi C 14 0 := by
  have rb : (0 : Int) ≤ (pj_fi C 14 0).toInt ∧ (pj_fi C 14 0).toInt ≤ 8 := iC.2.1 14 0 (0, 8) rfl
  obtain ⟨iF, kF, rF, -⟩ := fr_87x C iC (Int32.ofInt (-1)) (pj_fi C 14 0) (by decide) rb
  obtain ⟨-, kD, -⟩ := fr_83x _ (tx_i26 iF b.toInt.toNat (F_87x C (Int32.ofInt (-1)) (pj_fi C 14 0)).1 (by omega)) ((Int8.ofInt 49).toInt32) ((Int8.ofInt 57).toInt32) (by decide) (by decide)
  rw [tx_Px_14]
  exact ⟨by rw [pj_fv_wa, kD.2.1.2 (6, 0) (by decide), pj_fv_wa, kF.2.1.2 (6, 0) (by decide)], by rw [pj_fi_wa, kD.1 (14, 0) (by decide), pj_fi_wa, kF.1 (14, 0) (by decide)]⟩
theorem tx_L92_14 (C0 : pj_G) (f : Nat) (v2 v3 v4 : Int32) (C : pj_G) (hv : pj_fv C 6 0 = some (.ref 14)) : L_92x C0 (f + 1) v2 v3 v4 C = cond (pj_c1 .gt v4 ((Int8.ofInt 6).toInt32)) (v2, C) (cond (pj_c1 .eq v3 0) (v2, C) (cond (pj_c1 .ge v4 ((Int8.ofInt 6).toInt32)) (pj_bd (F_82x (F_81x C) ((Int8.ofInt 59).toInt32)) (fun y20 G21 => L_92x C0 f (v2 + Int32.ofInt 1) y20 (v4 + Int32.ofInt 1) G21)) (pj_bd (F_82x (tx_P_14 v4 C) ((Int8.ofInt 59).toInt32)) (fun y52 G53 => L_92x C0 f (v2 + Int32.ofInt 1) y52 (v4 + Int32.ofInt 1) G53)))) := by
  rw [L_92x_s0, show pj_rb C 6 0 7 = false from pj_rb_f hv rfl, pj_cF]
  unfold tx_P_14
  simp only [pj_nm_x, pj_bd_x]
set_option maxHeartbeats 4000000 in
theorem tx_pel_14 (C0 R0 : pj_G) (q n : Int32) (hq : (0 : Int) ≤ q.toInt ∧ q.toInt ≤ 0) : ∀ (k fc fr : Nat) (v2 v3 v4 is more : Int32) (C R : pj_G), tx_RD C R → pj_fv C 6 0 = some (.ref 14) → pj_fi C 14 0 = pj_fi R 171 3 → v3.toInt = more.toInt → (more.toInt = 0 ∨ more.toInt = 1) → is.toInt = 1 → (pj_fi R 171 22).toInt = v2.toInt → v4.toInt = (pj_fi R 171 6).toInt + v2.toInt → 0 ≤ v2.toInt → (∀ i : Nat, (i : Int) < v2.toInt → tx_pd C R ((pj_fi R 171 6).toInt.toNat + i) i) → v4.toInt ≤ 6 → v4.toInt + k = 7 → k < fc → k + 2 < fr → ∃ (is' : Int32) (R' : pj_G), L_195_0tx R0 q fr n is more R = (F_189x R' n ((Int8.ofInt 17).toInt32) is', R') ∧ pj_kpt mr_RB R R' ∧ (∀ j : Nat, (j : Int) < (pj_fi R 171 6).toInt → tx_ps C (L_92x C0 fc v2 v3 v4 C).2 j) ∧ ((is'.toInt = 1 ∧ tx_RD (L_92x C0 fc v2 v3 v4 C).2 R' ∧ (L_92x C0 fc v2 v3 v4 C).1.toInt = (pj_fi R' 171 22).toInt ∧ pj_fi R' 171 6 = pj_fi R 171 6 ∧ (∀ i : Nat, (i : Int) < (pj_fi R' 171 22).toInt → tx_pd (L_92x C0 fc v2 v3 v4 C).2 R' ((pj_fi R 171 6).toInt.toNat + i) i)) ∨ (is'.toInt = 0 ∧ tx_ER (L_92x C0 fc v2 v3 v4 C).2 R')) := by
  have k0 : (Int32.ofInt 0).toInt = 0 := by decide
  have k1 : (Int32.ofInt 1).toInt = 1 := by decide
  have k6 : (((Int8.ofInt 6).toInt32)).toInt = 6 := by decide
  have k59 : (((Int8.ofInt 59).toInt32)).toInt = 59 := by decide
  intro k
  induction k with
  | zero =>
    intro fc fr v2 v3 v4 is more C R h hv hkb hv3 hmo his hm hvv hv0 dat h6 hk
    omega
  | succ k ih =>
    intro fc fr v2 v3 v4 is more C R h hv hkb hv3 hmo his hm hvv hv0 dat h6 hk hfc hfr
    obtain ⟨f, rfl⟩ : ∃ z, fc = z + 1 := ⟨fc - 1, by omega⟩
    obtain ⟨g, rfl⟩ : ∃ z, fr = z + 1 := ⟨fr - 1, by omega⟩
    have r22 := tx_r22 h.2.1
    have r6 : (0 : Int) ≤ (pj_fi R 171 6).toInt ∧ (pj_fi R 171 6).toInt ≤ 6 := h.2.1.2.1 171 6 (0, 6) rfl
    have s2 : (v2 + Int32.ofInt 1).toInt = v2.toInt + 1 := by rw [pj_addI (by omega) (by omega), k1]
    have s4 : (v4 + Int32.ofInt 1).toInt = v4.toInt + 1 := by rw [pj_addI (by omega) (by omega), k1]
    rw [tx_L92_14 C0 f v2 v3 v4 C hv, tx_L195p, pj_b_gtF (show v4.toInt ≤ (((Int8.ofInt 6).toInt32)).toInt by omega), pj_cF]
    by_cases m0 : more.toInt = 0
    · rw [pj_b0_eqT (show v3.toInt = 0 by omega), pj_cT, pj_b0_eqT m0, pj_cT]
      exact ⟨is, R, rfl, pj_kpt_r _ _, fun j _ => tx_psr _ j, .inl ⟨his, h, by dsimp only; omega, rfl, fun i hi => dat i (by omega)⟩⟩
    · rw [pj_b0_eqF (show ¬ v3.toInt = 0 by omega), pj_cF, pj_b0_eqF m0, pj_cF]
      simp only [pj_bd_x]
      by_cases b6 : v4.toInt = 6
      · rw [pj_b_geT (show (((Int8.ofInt 6).toInt32)).toInt ≤ v4.toInt by omega), pj_cT]
        have sz : (pj_fi R 171 6 + pj_fi R 171 22).toInt = 6 := by rw [pj_addI (by omega) (by omega)]; omega
        have eF : F_194_0x R q = (Int32.ofInt 0, R) := by
          rw [F_194_0x_e]
          simp only [pj_nm_x]
          rw [pj_b_neF (show (pj_fi R 171 6 + pj_fi R 171 22).toInt = (((Int8.ofInt 6).toInt32)).toInt by omega), pj_cF]
        rw [eF]
        dsimp only
        rw [pj_b0_eqT k0, pj_cT]
        obtain ⟨g', rfl⟩ : ∃ z, g = z + 1 := ⟨g - 1, by omega⟩
        rw [tx_L195p, pj_b0_eqT k0, pj_cT]
        obtain ⟨i1, kk, n1, e1, e2⟩ := fr_81x C h.1
        have e1 := e1 h.2.2.1
        have l1 : pj_fi (F_81x C) 2 2 = pj_fi C 2 2 := kk.1 (2, 2) (by decide)
        obtain ⟨d1, d2, d3, d4⟩ := tx_82d i1 n1 ((Int8.ofInt 59).toInt32) (by omega)
        obtain ⟨_, _, hb, ha, hm', hle, ht⟩ := h
        have l2 : (pj_fi (F_82x (F_81x C) ((Int8.ofInt 59).toInt32)).2 2 2).toInt = (pj_fi C 2 2).toInt := by rw [d4, l1]
        have er : tx_ER (F_82x (F_81x C) ((Int8.ofInt 59).toInt32)).2 R := ⟨d1, by assumption, by omega, by omega, by omega⟩
        obtain ⟨f', rfl⟩ : ∃ z, f = z + 1 := ⟨f - 1, by omega⟩
        obtain ⟨-, k82, -⟩ := fr_82x (F_81x C) i1 ((Int8.ofInt 59).toInt32) (by omega)
        rw [tx_dl7 C0 _ f' _ _ _ d2]
        dsimp only
        exact ⟨_, R, rfl, pj_kpt_r _ _, fun j _ => tx_pst (tx_psk kk rfl j) (tx_psk k82 rfl j), .inr ⟨k0, er⟩⟩
      · rw [pj_b_geF (show v4.toInt < (((Int8.ofInt 6).toInt32)).toInt by omega), pj_cF]
        obtain ⟨-, k194, -⟩ := fr_194_0x R h.2.1 q hq (by omega)
        obtain ⟨pv, pb⟩ := tx_Pk_14 h.1 v4
        rcases tx_pe_14 h v4 q (by omega) (by omega) hkb with ⟨t1, t2, t3, t4, t4b, t5⟩ | ⟨t1, t2⟩
        · rw [pj_b0_eqF (show ¬ (F_194_0x R q).1.toInt = 0 by omega), pj_cF]
          obtain ⟨e, h2⟩ := tx_skip t2 ((Int8.ofInt 59).toInt32) (by omega)
          obtain ⟨iR, kR, rR, -⟩ := fr_183x (F_194_0x R q).2 t2.2.1 ((Int8.ofInt 59).toInt32) (by omega)
          have m1 : pj_fi (F_183x (F_194_0x R q).2 ((Int8.ofInt 59).toInt32)).2 171 22 = pj_fi (F_194_0x R q).2 171 22 := kR.1 (171, 22) (by decide)
          have m5 : pj_fi (F_183x (F_194_0x R q).2 ((Int8.ofInt 59).toInt32)).2 171 6 = pj_fi R 171 6 := by rw [kR.1 (171, 6) (by decide)]; exact t4
          have m3 : pj_fi (F_183x (F_194_0x R q).2 ((Int8.ofInt 59).toInt32)).2 171 3 = pj_fi R 171 3 := by rw [kR.1 (171, 3) (by decide)]; exact t4b
          have m1' : (pj_fi (F_183x (F_194_0x R q).2 ((Int8.ofInt 59).toInt32)).2 171 22).toInt = v2.toInt + 1 := by rw [m1]; omega
          have m5' : (pj_fi (F_183x (F_194_0x R q).2 ((Int8.ofInt 59).toInt32)).2 171 6).toInt = (pj_fi R 171 6).toInt := by rw [m5]
          obtain ⟨iA, kA, -⟩ := fr_82x (tx_P_14 v4 C) t2.1 ((Int8.ofInt 59).toInt32) (by omega)
          have pv2 : pj_fv (F_82x (tx_P_14 v4 C) ((Int8.ofInt 59).toInt32)).2 6 0 = some (.ref 14) := (kA.2.1.2 (6, 0) (by decide)).trans (pv.trans hv)
          have pb2 : pj_fi (F_82x (tx_P_14 v4 C) ((Int8.ofInt 59).toInt32)).2 14 0 = pj_fi (F_183x (F_194_0x R q).2 ((Int8.ofInt 59).toInt32)).2 171 3 := by rw [kA.1 (14, 0) (by decide), pb, m3]; exact hkb
          have kk : pj_kpt mr_RB R (F_183x (F_194_0x R q).2 ((Int8.ofInt 59).toInt32)).2 := pj_kpt_t (pj_kpt_s k194 rfl) (pj_kpt_s kR rfl)
          have fs : ∀ j : Nat, (j : Int) < v4.toInt → tx_ps C (F_82x (tx_P_14 v4 C) ((Int8.ofInt 59).toInt32)).2 j := fun j hj => tx_pst (tx_Pf_14 h.1 v4 j (by omega)) (tx_psk kA rfl j)
          have dat2 : ∀ i : Nat, (i : Int) < v2.toInt + 1 → tx_pd (F_82x (tx_P_14 v4 C) ((Int8.ofInt 59).toInt32)).2 (F_183x (F_194_0x R q).2 ((Int8.ofInt 59).toInt32)).2 ((pj_fi R 171 6).toInt.toNat + i) i := by
            intro i hi
            by_cases qi : (i : Int) = v2.toInt
            · rw [show v4.toInt.toNat = (pj_fi R 171 6).toInt.toNat + i by omega, show (pj_fi R 171 22).toInt.toNat = i by omega] at t5
              exact tx_pdk t5 (tx_psk kA rfl _) (fun j _ => kR.2.2 181 (by decide) j)
            · exact tx_pdk (dat i (by omega)) (fs _ (by omega)) (fun j hj => (kR.2.2 181 (by decide) j).trans (tx_194f h.2.1 q (by omega) j (by omega)))
          by_cases q0 : (F_183x (F_194_0x R q).2 ((Int8.ofInt 59).toInt32)).1.toInt = 0
          · rw [pj_b0_eqT q0, pj_cT]
            obtain ⟨g', rfl⟩ : ∃ z, g = z + 1 := ⟨g - 1, by omega⟩
            obtain ⟨f', rfl⟩ : ∃ z, f = z + 1 := ⟨f - 1, by omega⟩
            rw [tx_L195p, pj_b0_eqT k0, pj_cT, tx_dl7 C0 _ f' _ _ _ (show (F_82x (tx_P_14 v4 C) ((Int8.ofInt 59).toInt32)).1.toInt = 0 by omega)]
            dsimp only
            exact ⟨_, _, rfl, kk, fun j hj => fs j (by omega), .inl ⟨t1, h2, by omega, m5, fun i hi => dat2 i (by omega)⟩⟩
          · rw [pj_b0_eqF q0, pj_cF]
            obtain ⟨is', R', z1, z2, z3, z4⟩ := ih f g (v2 + Int32.ofInt 1) (F_82x (tx_P_14 v4 C) ((Int8.ofInt 59).toInt32)).1 (v4 + Int32.ofInt 1) (F_194_0x R q).1 (Int32.ofInt 1) _ _ h2 pv2 pb2 (by omega) (by omega) t1 (by omega) (by omega) (by omega) (fun i hi => by rw [m5]; exact dat2 i (by omega)) (by omega) (by omega) (by omega) (by omega)
            rw [m5] at z3 z4
            exact ⟨is', R', z1, pj_kpt_t kk z2, fun j hj => tx_pst (fs j (by omega)) (z3 j hj), z4⟩
        · rw [pj_b0_eqT t1, pj_cT]
          obtain ⟨g', rfl⟩ : ∃ z, g = z + 1 := ⟨g - 1, by omega⟩
          obtain ⟨f', rfl⟩ : ∃ z, f = z + 1 := ⟨f - 1, by omega⟩
          rw [tx_L195p, pj_b0_eqT k0, pj_cT]
          obtain ⟨d1, d2, d3, d4⟩ := tx_82d t2.1 (tx_enb t2) ((Int8.ofInt 59).toInt32) (by omega)
          obtain ⟨-, kA, -⟩ := fr_82x (tx_P_14 v4 C) t2.1 ((Int8.ofInt 59).toInt32) (by omega)
          rw [tx_dl7 C0 _ f' _ _ _ d2]
          dsimp only
          exact ⟨_, _, rfl, pj_kpt_s k194 rfl, fun j hj => tx_pst (tx_Pf_14 h.1 v4 j (by omega)) (tx_psk kA rfl j), .inr ⟨t1, tx_eC t2 d1 ⟨d3, d4⟩⟩⟩
