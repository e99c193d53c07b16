/-! A CROSSING, THE RIVER: the reference's stages -/
noncomputable def tx_s4 (z4 : Int32) (R : pj_G) : Int32 × pj_G := pj_nm (z4 + (Int32.ofInt 3)) (fun z52 => pj_bd (F_186_s9x R) (fun y56 G57 => pj_nm ((Int32.ofInt 1) + y56) (fun z64 => pj_nm (pj_wa G57 181 z52.toInt.toNat z64) (fun G65 => pj_nm (pj_fi G57 171 22) (fun y61 => pj_nm (y61 + (Int32.ofInt 1)) (fun z66 => pj_nm (pj_wv G65 171 22 (.int z66)) (fun G67 => pj_nm (pj_ai G67 181 z52.toInt.toNat) (fun z68 => cond (pj_c1 .le z68 0) ((Int32.ofInt 0, G67)) ((Int32.ofInt 1, G67))))))))))
noncomputable def tx_s3 (z4 : Int32) (R : pj_G) : Int32 × pj_G := pj_bd (F_183x R ((Int8.ofInt 58).toInt32)) (fun y43 G44 => cond (pj_c1 .ne y43 0) (tx_s4 z4 G44) ((Int32.ofInt 0, G44)))
noncomputable def tx_s2 (z4 : Int32) (R : pj_G) : Int32 × pj_G := pj_nm (z4 + (Int32.ofInt 2)) (fun z21 => pj_bd (F_187ex R (Int32.ofInt 2)) (fun y25 G26 => pj_nm (pj_wa G26 181 z21.toInt.toNat y25) (fun G33 => pj_nm (pj_ai G33 181 z21.toInt.toNat) (fun z34 => cond (pj_c1 .lt z34 0) ((Int32.ofInt 0, G33)) (tx_s3 z4 G33)))))
noncomputable def tx_s1 (z4 y9 : Int32) (G10 : pj_G) : Int32 × pj_G := pj_nm (z4 + (Int32.ofInt 1)) (fun z5 => pj_nm (pj_wa G10 181 z5.toInt.toNat y9) (fun G16 => pj_nm (pj_fi G10 171 23) (fun y14 => pj_nm (pj_wa G16 181 z4.toInt.toNat y14) (fun G17 => pj_nm (pj_ai G17 181 z5.toInt.toNat) (fun z18 => cond (pj_c1 .ge z18 0) (tx_s2 z4 G17) ((Int32.ofInt 0, G17)))))))
theorem tx_191a (R : pj_G) : F_191x R = pj_nm (pj_fi R 171 22) (fun y1 => pj_nm ((Int32.ofInt 4) * y1) (fun z4 => pj_nm (z4 + (Int32.ofInt 1)) (fun z5 => pj_nm (pj_fi R 171 21) (fun y3 => pj_bd (F_190x R y3) (fun y9 G10 => pj_nm (pj_wa G10 181 z5.toInt.toNat y9) (fun G16 => pj_nm (pj_fi G10 171 23) (fun y14 => pj_nm (pj_wa G16 181 z4.toInt.toNat y14) (fun G17 => pj_nm (pj_ai G17 181 z5.toInt.toNat) (fun z18 => cond (pj_c1 .ge z18 0) (tx_s2 z4 G17) ((Int32.ofInt 0, G17))))))))))) := rfl
theorem tx_191 (R : pj_G) : F_191x R = tx_s1 ((Int32.ofInt 4) * pj_fi R 171 22) (F_190x R (pj_fi R 171 21)).1 (F_190x R (pj_fi R 171 21)).2 := by
  rw [tx_191a]
  unfold tx_s1
  simp only [pj_nm_x, pj_bd_x]
theorem tx_i181 {R : pj_G} (iR : pj_Inv R) (j : Nat) (x : Int32) (hx : -1 ≤ x.toInt ∧ x.toInt ≤ 99) : pj_Inv (pj_wa R 181 j x) := pj_Inv_wa iR rfl (fun q hq => by cases hq; exact ⟨by show (-1 : Int) ≤ _; omega, by show _ ≤ (99 : Int); omega, by show _ ≤ (-1 : Int) ∨ (-1 : Int) ≤ _; omega⟩) (fun n hn => by cases hn)
theorem tx_i22 {R : pj_G} (iR : pj_Inv R) (x : Int32) (hx : 0 ≤ x.toInt ∧ x.toInt ≤ 10) : pj_Inv (pj_wv R 171 22 (.int x)) := pj_Inv_wi iR (ci := 12) rfl (fun q hq => by cases hq; exact ⟨by show (0 : Int) ≤ _; omega, by show _ ≤ (10 : Int); omega⟩)
theorem tx_i21 {R : pj_G} (iR : pj_Inv R) (x : Int32) (hx : 0 ≤ x.toInt ∧ x.toInt ≤ 8) : pj_Inv (pj_wv R 171 21 (.int x)) := pj_Inv_wi iR (ci := 12) rfl (fun q hq => by cases hq; exact ⟨by show (0 : Int) ≤ _; omega, by show _ ≤ (8 : Int); omega⟩)
theorem tx_i23 {R : pj_G} (iR : pj_Inv R) (x : Int32) (hx : -1 ≤ x.toInt ∧ x.toInt ≤ 7) : pj_Inv (pj_wv R 171 23 (.int x)) := pj_Inv_wi iR (ci := 12) rfl (fun q hq => by cases hq; exact ⟨by show (-1 : Int) ≤ _; omega, by show _ ≤ (7 : Int); omega⟩)
theorem tx_r22 {R : pj_G} (h : pj_Inv R) : (0 : Int) ≤ (pj_fi R 171 22).toInt ∧ (pj_fi R 171 22).toInt ≤ 10 := h.2.1 171 22 (0, 10) rfl
theorem tx_r21 {R : pj_G} (h : pj_Inv R) : (0 : Int) ≤ (pj_fi R 171 21).toInt ∧ (pj_fi R 171 21).toInt ≤ 8 := h.2.1 171 21 (0, 8) rfl
/-- what a crossing's stages leave: how many were read, of how many BANKS -/
def tx_kp (R R' : pj_G) : Prop := pj_fi R' 171 22 = pj_fi R 171 22 ∧ pj_fi R' 171 21 = pj_fi R 171 21
theorem tx_sf {W : pj_G} (iW : pj_Inv W) (x b : Int32) (rb : (0 : Int) ≤ b.toInt ∧ b.toInt ≤ 8) : pj_fi (tx_S W (pj_fi W 171 17) x b).2 171 22 = pj_fi W 171 22 ∧ pj_fi (tx_S W (pj_fi W 171 17) x b).2 171 21 = pj_fi W 171 21 ∧ (-1 ≤ (tx_S W (pj_fi W 171 17) x b).1.toInt ∧ (tx_S W (pj_fi W 171 17) x b).1.toInt ≤ 7) ∧ pj_fi (tx_S W (pj_fi W 171 17) x b).2 171 23 = pj_fi W 171 23 := by
  obtain ⟨iM, kM, rM, -, -⟩ := fr_188x W iW b rb
  have m22 : pj_fi (F_188x W b).2 171 22 = pj_fi W 171 22 := kM.1 (171, 22) (by decide)
  have m21 : pj_fi (F_188x W b).2 171 21 = pj_fi W 171 21 := kM.1 (171, 21) (by decide)
  have m23 : pj_fi (F_188x W b).2 171 23 = pj_fi W 171 23 := kM.1 (171, 23) (by decide)
  unfold tx_S
  cases pj_c1 .ge (pj_fi W 171 17) (pj_fi W 171 18) with
  | true =>
    rw [pj_cT]
    exact ⟨m22, m21, rM, m23⟩
  | false =>
    rw [pj_cF]
    cases pj_c1 .ne (pj_ai W 180 (pj_fi W 171 17).toInt.toNat) (((Int8.ofInt 97).toInt32) + x) with
    | true =>
      rw [pj_cT]
      exact ⟨m22, m21, rM, m23⟩
    | false =>
      rw [pj_cF]
      exact ⟨rfl, rfl, (by show -1 ≤ (Int32.ofInt (-1)).toInt ∧ (Int32.ofInt (-1)).toInt ≤ 7; decide), rfl⟩
theorem mr_c2 {α β : Type} (b : Bool) {p q : α × β} {P : β → Prop} (hp : P p.2) (hq : P q.2) : P (cond b p q).2 := by
  cases b
  · exact hq
  · exact hp
/-! what the stages of the reference leave of the signs read -/
theorem tx_g4 {R : pj_G} (iR : pj_Inv R) (z4 : Int32) (j : Nat) (h : j ≠ (z4 + Int32.ofInt 3).toInt.toNat) : pj_ai (tx_s4 z4 R).2 181 j = pj_ai R 181 j := by
  obtain ⟨-, k, -⟩ := fr_186_s9x R iR
  have e : pj_ai (pj_wv (pj_wa (F_186_s9x R).2 181 (z4 + Int32.ofInt 3).toInt.toNat (Int32.ofInt 1 + (F_186_s9x R).1)) 171 22 (.int (pj_fi (F_186_s9x R).2 171 22 + Int32.ofInt 1))) 181 j = pj_ai R 181 j := by rw [pj_ai_wv, pj_ai_wa_nj _ _ _ _ _ h, k.2.2 181 (by decide) j]
  unfold tx_s4
  simp only [pj_nm_x, pj_bd_x]
  exact mr_c2 _ (P := fun G => pj_ai G 181 j = pj_ai R 181 j) e e
theorem tx_g3 {R : pj_G} (iR : pj_Inv R) (z4 : Int32) (j : Nat) (h : j ≠ (z4 + Int32.ofInt 3).toInt.toNat) : pj_ai (tx_s3 z4 R).2 181 j = pj_ai R 181 j := by
  obtain ⟨i, k, -⟩ := fr_183x R iR ((Int8.ofInt 58).toInt32) (by decide)
  have e := k.2.2 181 (by decide) j
  unfold tx_s3
  simp only [pj_bd_x]
  exact mr_c2 _ (P := fun G => pj_ai G 181 j = pj_ai R 181 j) ((tx_g4 i z4 j h).trans e) e
theorem tx_g2 {R : pj_G} (iR : pj_Inv R) (z4 : Int32) (j : Nat) (h2 : j ≠ (z4 + Int32.ofInt 2).toInt.toNat) (h : j ≠ (z4 + Int32.ofInt 3).toInt.toNat) : pj_ai (tx_s2 z4 R).2 181 j = pj_ai R 181 j := by
  obtain ⟨i, k, r, x⟩ := fr_187ex R iR (Int32.ofInt 2) (by decide)
  have b99 := x.2.1 (by decide)
  have i1 := tx_i181 i (z4 + Int32.ofInt 2).toInt.toNat (F_187ex R (Int32.ofInt 2)).1 (by omega)
  have e : pj_ai (pj_wa (F_187ex R (Int32.ofInt 2)).2 181 (z4 + Int32.ofInt 2).toInt.toNat (F_187ex R (Int32.ofInt 2)).1) 181 j = pj_ai R 181 j := by rw [pj_ai_wa_nj _ _ _ _ _ h2, k.2.2 181 (by decide) j]
  unfold tx_s2
  simp only [pj_nm_x, pj_bd_x]
  exact mr_c2 _ (P := fun G => pj_ai G 181 j = pj_ai R 181 j) e ((tx_g3 i1 z4 j h).trans e)
theorem tx_g1 {R : pj_G} (iR : pj_Inv R) (z4 y9 : Int32) (ry : -1 ≤ y9.toInt ∧ y9.toInt ≤ 7) (j : Nat) (h0 : j ≠ z4.toInt.toNat) (h1 : j ≠ (z4 + Int32.ofInt 1).toInt.toNat) (h2 : j ≠ (z4 + Int32.ofInt 2).toInt.toNat) (h : j ≠ (z4 + Int32.ofInt 3).toInt.toNat) : pj_ai (tx_s1 z4 y9 R).2 181 j = pj_ai R 181 j := by
  have r23 : (-1 : Int) ≤ (pj_fi R 171 23).toInt ∧ (pj_fi R 171 23).toInt ≤ 7 := iR.2.1 171 23 (-1, 7) rfl
  have i1 := tx_i181 iR (z4 + Int32.ofInt 1).toInt.toNat y9 (by omega)
  have i2 := tx_i181 i1 z4.toInt.toNat (pj_fi R 171 23) (by omega)
  have e : pj_ai (pj_wa (pj_wa R 181 (z4 + Int32.ofInt 1).toInt.toNat y9) 181 z4.toInt.toNat (pj_fi R 171 23)) 181 j = pj_ai R 181 j := by rw [pj_ai_wa_nj _ _ _ _ _ h0, pj_ai_wa_nj _ _ _ _ _ h1]
  unfold tx_s1
  simp only [pj_nm_x]
  exact mr_c2 _ (P := fun G => pj_ai G 181 j = pj_ai R 181 j) ((tx_g2 i2 z4 j h2 h).trans e) e
theorem tx_g0 {R : pj_G} (iR : pj_Inv R) (hr : (pj_fi R 171 22).toInt ≤ 9) (j : Nat) (h : (j : Int) < 4 * (pj_fi R 171 22).toInt) : pj_ai (F_191x R).2 181 j = pj_ai R 181 j := by
  have k4 : (Int32.ofInt 4).toInt = 4 := by decide
  have k1 : (Int32.ofInt 1).toInt = 1 := by decide
  have k2 : (Int32.ofInt 2).toInt = 2 := by decide
  have k3 : (Int32.ofInt 3).toInt = 3 := by decide
  have r22 := tx_r22 iR
  have rb := tx_r21 iR
  have sz4 : ((Int32.ofInt 4) * pj_fi R 171 22).toInt = 4 * (pj_fi R 171 22).toInt := pj_mulL k4 (by omega) (by omega)
  have s1 : ((Int32.ofInt 4) * pj_fi R 171 22 + Int32.ofInt 1).toInt = 4 * (pj_fi R 171 22).toInt + 1 := by rw [pj_addI (by omega) (by omega), sz4, k1]
  have s2 : ((Int32.ofInt 4) * pj_fi R 171 22 + Int32.ofInt 2).toInt = 4 * (pj_fi R 171 22).toInt + 2 := by rw [pj_addI (by omega) (by omega), sz4, k2]
  have s3 : ((Int32.ofInt 4) * pj_fi R 171 22 + Int32.ofInt 3).toInt = 4 * (pj_fi R 171 22).toInt + 3 := by rw [pj_addI (by omega) (by omega), sz4, k3]
  obtain ⟨i, k, r, -⟩ := fr_190x R iR (pj_fi R 171 21) rb
  rw [tx_191]
  exact (tx_g1 i _ _ r j (by omega) (by omega) (by omega) (by omega)).trans (k.2.2 181 (by decide) j)
/-! the class's stages (its river at cell 7) -/
noncomputable def tx_B5_7 (c : Int32) (C : pj_G) : pj_G := pj_bd (F_83x C ((Int8.ofInt 49).toInt32) ((Int8.ofInt 57).toInt32)) (fun y19 G20 => pj_nm ((Int32.ofInt 1) + y19) (fun z21 => pj_nm (pj_wa G20 11 c.toInt.toNat z21) (fun G22 => pj_nm (c + (Int32.ofInt 1)) (fun z23 => pj_wv G22 7 1 (.int z23)))))
noncomputable def tx_B4_7 (c : Int32) (C : pj_G) : pj_G := tx_B5_7 c (F_83x C ((Int8.ofInt 58).toInt32) ((Int8.ofInt 58).toInt32)).2
noncomputable def tx_B3_7 (c : Int32) (C : pj_G) : pj_G := pj_bd (F_86x C (Int32.ofInt 2)) (fun y14 G15 => tx_B4_7 c (pj_wa G15 10 c.toInt.toNat y14))
noncomputable def tx_B2_7 (c u b : Int32) (C : pj_G) : pj_G := pj_bd (F_87x C u b) (fun y11 G12 => tx_B3_7 c (pj_wa G12 9 c.toInt.toNat y11))
noncomputable def tx_B1_7 (c : Int32) (C : pj_G) : pj_G := pj_bd (F_87x C (Int32.ofInt (-1)) (pj_fi C 7 0)) (fun y6 G7 => pj_nm (pj_wa G7 8 c.toInt.toNat y6) (fun G8 => tx_B2_7 c (pj_ai G8 8 c.toInt.toNat) (pj_fi G8 7 0) G8))
noncomputable def tx_B5k_7 (c : Int32) (K : Int32 → pj_G → pj_G) (C : pj_G) : pj_G := pj_bd (F_83x C ((Int8.ofInt 49).toInt32) ((Int8.ofInt 57).toInt32)) (fun y19 G20 => pj_nm ((Int32.ofInt 1) + y19) (fun z21 => pj_nm (pj_wa G20 11 c.toInt.toNat z21) (fun G22 => pj_nm (c + (Int32.ofInt 1)) (fun z23 => pj_nm (pj_wv G22 7 1 (.int z23)) (fun G24 => K z23 G24)))))
noncomputable def tx_B4k_7 (c : Int32) (K : Int32 → pj_G → pj_G) (C : pj_G) : pj_G := pj_bd (F_83x C ((Int8.ofInt 58).toInt32) ((Int8.ofInt 58).toInt32)) (fun _ G18 => tx_B5k_7 c K G18)
noncomputable def tx_B3k_7 (c : Int32) (K : Int32 → pj_G → pj_G) (C : pj_G) : pj_G := pj_bd (F_86x C (Int32.ofInt 2)) (fun y14 G15 => pj_nm (pj_wa G15 10 c.toInt.toNat y14) (fun G16 => tx_B4k_7 c K G16))
noncomputable def tx_B2k_7 (c u b : Int32) (K : Int32 → pj_G → pj_G) (C : pj_G) : pj_G := pj_bd (F_87x C u b) (fun y11 G12 => pj_nm (pj_wa G12 9 c.toInt.toNat y11) (fun G13 => tx_B3k_7 c K G13))
noncomputable def tx_B1k_7 (c : Int32) (K : Int32 → pj_G → pj_G) (C : pj_G) : pj_G := pj_nm (pj_fi C 7 0) (fun y5 => pj_bd (F_87x C (Int32.ofInt (-1)) y5) (fun y6 G7 => pj_nm (pj_wa G7 8 c.toInt.toNat y6) (fun G8 => pj_nm (pj_ai G8 8 c.toInt.toNat) (fun z9 => pj_nm (pj_fi G8 7 0) (fun y10 => tx_B2k_7 c z9 y10 K G8)))))
theorem tx_k5_7 (c : Int32) (K : Int32 → pj_G → pj_G) (C : pj_G) : tx_B5k_7 c K C = K (c + (Int32.ofInt 1)) (tx_B5_7 c C) := by
  unfold tx_B5k_7 tx_B5_7
  rw [pj_bd_p, pj_bd_p, pj_nm_e, pj_nm_e, pj_nm_e, pj_nm_e, pj_nm_e, pj_nm_e, pj_nm_e]
theorem tx_k4_7 (c : Int32) (K : Int32 → pj_G → pj_G) (C : pj_G) : tx_B4k_7 c K C = K (c + (Int32.ofInt 1)) (tx_B4_7 c C) := by
  unfold tx_B4k_7 tx_B4_7
  rw [pj_bd_p, tx_k5_7]
theorem tx_k3_7 (c : Int32) (K : Int32 → pj_G → pj_G) (C : pj_G) : tx_B3k_7 c K C = K (c + (Int32.ofInt 1)) (tx_B3_7 c C) := by
  unfold tx_B3k_7 tx_B3_7
  rw [pj_bd_p, pj_bd_p, pj_nm_e, tx_k4_7]
theorem tx_k2_7 (c u b : Int32) (K : Int32 → pj_G → pj_G) (C : pj_G) : tx_B2k_7 c u b K C = K (c + (Int32.ofInt 1)) (tx_B2_7 c u b C) := by
  unfold tx_B2k_7 tx_B2_7
  rw [pj_bd_p, pj_bd_p, pj_nm_e, tx_k3_7]
theorem tx_k1_7 (c : Int32) (K : Int32 → pj_G → pj_G) (C : pj_G) : tx_B1k_7 c K C = K (c + (Int32.ofInt 1)) (tx_B1_7 c C) := by
  unfold tx_B1k_7 tx_B1_7
  simp only [pj_nm_x, pj_bd_x, tx_k2_7]
theorem tx_L41k_7 (C0 : pj_G) (f : Nat) (c : Int32) (C : pj_G) : L_41_7x C0 (f + 1) c C = cond (pj_c1 .ge c ((Int8.ofInt 10).toInt32)) C (pj_bd (F_82x C ((Int8.ofInt 59).toInt32)) (fun y2 G3 => cond (pj_c1 .eq y2 0) G3 (tx_B1k_7 c (L_41_7x C0 f) G3))) := by
  rw [L_41_7x_s0]
  unfold tx_B1k_7 tx_B2k_7 tx_B3k_7 tx_B4k_7 tx_B5k_7
  rfl
theorem tx_L41_7 (C0 : pj_G) (f : Nat) (c : Int32) (C : pj_G) : L_41_7x C0 (f + 1) c C = cond (pj_c1 .ge c ((Int8.ofInt 10).toInt32)) C (pj_bd (F_82x C ((Int8.ofInt 59).toInt32)) (fun y2 G3 => cond (pj_c1 .eq y2 0) G3 (L_41_7x C0 f (c + (Int32.ofInt 1)) (tx_B1_7 c G3)))) := by
  rw [tx_L41k_7]
  simp only [tx_k1_7]
theorem tx_ib_7 {C : pj_G} (iC : pj_Inv C) (j : Nat) (x : Int32) (hx : 0 ≤ x.toInt ∧ x.toInt ≤ 7) : pj_Inv (pj_wa C 8 j x) ∧ pj_Inv (pj_wa C 9 j x) := ⟨pj_Inv_wa iC rfl (fun q hq => by cases hq; exact ⟨by show (0 : Int) ≤ _; omega, by show _ ≤ (7 : Int); omega, by show _ ≤ (0 : Int) ∨ (0 : Int) ≤ _; omega⟩) (fun n hn => by cases hn), pj_Inv_wa iC rfl (fun q hq => by cases hq; exact ⟨by show (0 : Int) ≤ _; omega, by show _ ≤ (7 : Int); omega, by show _ ≤ (0 : Int) ∨ (0 : Int) ≤ _; omega⟩) (fun n hn => by cases hn)⟩
theorem tx_ip_7 {C : pj_G} (iC : pj_Inv C) (j : Nat) (x : Int32) : pj_Inv (pj_wa C 10 j x) := pj_Inv_wa iC rfl (fun q hq => by cases hq) (fun n hn => by cases hn)
theorem tx_iw_7 {C : pj_G} (iC : pj_Inv C) (j : Nat) (x : Int32) (hx : 0 ≤ x.toInt ∧ x.toInt ≤ 9) : pj_Inv (pj_wa C 11 j x) := pj_Inv_wa iC rfl (fun q hq => by cases hq; exact ⟨by show (0 : Int) ≤ _; omega, by show _ ≤ (9 : Int); omega, by show _ ≤ (0 : Int) ∨ (0 : Int) ≤ _; omega⟩) (fun n hn => by cases hn)
theorem tx_ic_7 {C : pj_G} (iC : pj_Inv C) (x : Int32) (hx : 0 ≤ x.toInt ∧ x.toInt ≤ 10) : pj_Inv (pj_wv C 7 1 (.int x)) := pj_Inv_wi iC (ci := 5) rfl (fun q hq => by cases hq; exact ⟨by show (0 : Int) ≤ _; omega, by show _ ≤ (10 : Int); omega⟩)
/-- a dead class goes through the stages as it is -/
def tx_dd_7 (C C' : pj_G) (c : Int32) : Prop := pj_Inv C' ∧ (pj_fi C' 2 4).toInt = (pj_fi C 2 4).toInt ∧ pj_fi C' 2 2 = pj_fi C 2 2
theorem tx_D5_7 {C : pj_G} (iC : pj_Inv C) (hb : ¬ (pj_fi C 2 4).toInt = -1) (c : Int32) (rc : 0 ≤ c.toInt ∧ c.toInt ≤ 9) : tx_dd_7 C (tx_B5_7 c C) c := by
  have k1 : (((Int8.ofInt 49).toInt32)).toInt = 49 := by decide
  have k2 : (((Int8.ofInt 57).toInt32)).toInt = 57 := by decide
  have k3 : (Int32.ofInt 1).toInt = 1 := by decide
  obtain ⟨i1, v1, e1, l1⟩ := tx_dead iC hb ((Int8.ofInt 49).toInt32) ((Int8.ofInt 57).toInt32) (by omega) (by omega)
  have s : ((Int32.ofInt 1) + (F_83x C ((Int8.ofInt 49).toInt32) ((Int8.ofInt 57).toInt32)).1).toInt = 1 := by rw [pj_addI (by omega) (by omega), k3, v1]; rfl
  have sc : (c + (Int32.ofInt 1)).toInt = c.toInt + 1 := by rw [pj_addI (by omega) (by omega), k3]
  refine ⟨tx_ic_7 (tx_iw_7 i1 _ _ (by omega)) _ (by omega), ?_, ?_⟩
  · show (pj_fi (pj_wv (pj_wa (F_83x C ((Int8.ofInt 49).toInt32) ((Int8.ofInt 57).toInt32)).2 11 c.toInt.toNat _) 7 1 (.int _)) 2 4).toInt = _
    rw [pj_fi_wv_ne _ _ _ _ _ _ (by decide), pj_fi_wa]
    exact e1
  · show pj_fi (pj_wv (pj_wa (F_83x C ((Int8.ofInt 49).toInt32) ((Int8.ofInt 57).toInt32)).2 11 c.toInt.toNat _) 7 1 (.int _)) 2 2 = _
    rw [pj_fi_wv_ne _ _ _ _ _ _ (by decide), pj_fi_wa]
    exact l1
theorem tx_D4_7 {C : pj_G} (iC : pj_Inv C) (hb : ¬ (pj_fi C 2 4).toInt = -1) (c : Int32) (rc : 0 ≤ c.toInt ∧ c.toInt ≤ 9) : tx_dd_7 C (tx_B4_7 c C) c := by
  have k1 : (((Int8.ofInt 58).toInt32)).toInt = 58 := by decide
  obtain ⟨i1, v1, e1, l1⟩ := tx_dead iC hb ((Int8.ofInt 58).toInt32) ((Int8.ofInt 58).toInt32) (by omega) (by omega)
  obtain ⟨i2, e2, l2⟩ := tx_D5_7 i1 (by rw [e1]; exact hb) c rc
  exact ⟨i2, e2.trans e1, l2.trans l1⟩
theorem tx_D3_7 {C : pj_G} (iC : pj_Inv C) (hb : ¬ (pj_fi C 2 4).toInt = -1) (c : Int32) (rc : 0 ≤ c.toInt ∧ c.toInt ≤ 9) : tx_dd_7 C (tx_B3_7 c C) c := by
  obtain ⟨i1, v1, e1, l1⟩ := tx_86d iC hb (Int32.ofInt 2) (by decide)
  have e1' : (pj_fi (pj_wa (F_86x C (Int32.ofInt 2)).2 10 c.toInt.toNat (F_86x C (Int32.ofInt 2)).1) 2 4).toInt = (pj_fi C 2 4).toInt := by rw [pj_fi_wa]; exact e1
  obtain ⟨i2, e2, l2⟩ := tx_D4_7 (tx_ip_7 i1 c.toInt.toNat (F_86x C (Int32.ofInt 2)).1) (by rw [e1']; exact hb) c rc
  have l0 : pj_fi (pj_wa (F_86x C (Int32.ofInt 2)).2 10 c.toInt.toNat (F_86x C (Int32.ofInt 2)).1) 2 2 = pj_fi C 2 2 := by rw [pj_fi_wa]; exact l1
  have l1' := l2.trans l0
  unfold tx_B3_7
  rw [pj_bd_p]
  exact ⟨i2, e2.trans e1', l1'⟩
theorem tx_D2_7 {C : pj_G} (iC : pj_Inv C) (hb : ¬ (pj_fi C 2 4).toInt = -1) (c u b : Int32) (rc : 0 ≤ c.toInt ∧ c.toInt ≤ 9) (ru : (-1 : Int) ≤ u.toInt ∧ u.toInt ≤ 7) (rb : (0 : Int) ≤ b.toInt ∧ b.toInt ≤ 8) : tx_dd_7 C (tx_B2_7 c u b C) c := by
  obtain ⟨i1, v1, e1, l1⟩ := tx_87d iC hb u b ru rb
  have e1' : (pj_fi (pj_wa (F_87x C u b).2 9 c.toInt.toNat (F_87x C u b).1) 2 4).toInt = (pj_fi C 2 4).toInt := by rw [pj_fi_wa]; exact e1
  obtain ⟨i2, e2, l2⟩ := tx_D3_7 (tx_ib_7 i1 c.toInt.toNat (F_87x C u b).1 (by omega)).2 (by rw [e1']; exact hb) c rc
  have l0 : pj_fi (pj_wa (F_87x C u b).2 9 c.toInt.toNat (F_87x C u b).1) 2 2 = pj_fi C 2 2 := by rw [pj_fi_wa]; exact l1
  have l1' := l2.trans l0
  unfold tx_B2_7
  rw [pj_bd_p]
  exact ⟨i2, e2.trans e1', l1'⟩
/-- what the stages leave of the rows of crossings -/
theorem tx_f5_7 {C : pj_G} (iC : pj_Inv C) (c : Int32) (j : Nat) : (pj_ai (tx_B5_7 c C) 8 j = pj_ai C 8 j ∧ pj_ai (tx_B5_7 c C) 9 j = pj_ai C 9 j ∧ pj_ai (tx_B5_7 c C) 10 j = pj_ai C 10 j) ∧ (j ≠ c.toInt.toNat → pj_ai (tx_B5_7 c C) 11 j = pj_ai C 11 j) := by
  obtain ⟨-, k, -⟩ := fr_83x C iC ((Int8.ofInt 49).toInt32) ((Int8.ofInt 57).toInt32) (by decide) (by decide)
  unfold tx_B5_7
  simp only [pj_nm_x, pj_bd_x]
  refine ⟨⟨?_, ?_, ?_⟩, fun h => ?_⟩
  · rw [pj_ai_wv, pj_ai_wa_ne _ _ _ _ _ _ (by decide), k.2.2 8 (by decide) j]
  · rw [pj_ai_wv, pj_ai_wa_ne _ _ _ _ _ _ (by decide), k.2.2 9 (by decide) j]
  · rw [pj_ai_wv, pj_ai_wa_ne _ _ _ _ _ _ (by decide), k.2.2 10 (by decide) j]
  · rw [pj_ai_wv, pj_ai_wa_nj _ _ _ _ _ h, k.2.2 11 (by decide) j]
theorem tx_f4_7 {C : pj_G} (iC : pj_Inv C) (c : Int32) (j : Nat) : (pj_ai (tx_B4_7 c C) 8 j = pj_ai C 8 j ∧ pj_ai (tx_B4_7 c C) 9 j = pj_ai C 9 j ∧ pj_ai (tx_B4_7 c C) 10 j = pj_ai C 10 j) ∧ (j ≠ c.toInt.toNat → pj_ai (tx_B4_7 c C) 11 j = pj_ai C 11 j) := by
  obtain ⟨i, k, -⟩ := fr_83x C iC ((Int8.ofInt 58).toInt32) ((Int8.ofInt 58).toInt32) (by decide) (by decide)
  obtain ⟨⟨a, b, d⟩, e⟩ := tx_f5_7 i c j
  unfold tx_B4_7
  exact ⟨⟨a.trans (k.2.2 8 (by decide) j), b.trans (k.2.2 9 (by decide) j), d.trans (k.2.2 10 (by decide) j)⟩, fun h => (e h).trans (k.2.2 11 (by decide) j)⟩
theorem tx_f3_7 {C : pj_G} (iC : pj_Inv C) (c : Int32) (j : Nat) : (pj_ai (tx_B3_7 c C) 8 j = pj_ai C 8 j ∧ pj_ai (tx_B3_7 c C) 9 j = pj_ai C 9 j) ∧ (j ≠ c.toInt.toNat → pj_ai (tx_B3_7 c C) 10 j = pj_ai C 10 j ∧ pj_ai (tx_B3_7 c C) 11 j = pj_ai C 11 j) := by
  obtain ⟨i, k, -⟩ := fr_86x C iC (Int32.ofInt 2) (by decide)
  have i3 := tx_ip_7 i c.toInt.toNat (F_86x C (Int32.ofInt 2)).1
  have q := tx_f4_7 i3 c j
  unfold tx_B3_7
  simp only [pj_bd_x]
  refine ⟨⟨?_, ?_⟩, fun h => ⟨?_, ?_⟩⟩
  · rw [q.1.1, pj_ai_wa_ne _ _ _ _ _ _ (by decide), k.2.2 8 (by decide) j]
  · rw [q.1.2.1, pj_ai_wa_ne _ _ _ _ _ _ (by decide), k.2.2 9 (by decide) j]
  · rw [q.1.2.2, pj_ai_wa_nj _ _ _ _ _ h, k.2.2 10 (by decide) j]
  · rw [q.2 h, pj_ai_wa_ne _ _ _ _ _ _ (by decide), k.2.2 11 (by decide) j]
theorem tx_f2_7 {C : pj_G} (iC : pj_Inv C) (c u b : Int32) (ru : (-1 : Int) ≤ u.toInt ∧ u.toInt ≤ 7) (rb : (0 : Int) ≤ b.toInt ∧ b.toInt ≤ 8) (j : Nat) : pj_ai (tx_B2_7 c u b C) 8 j = pj_ai C 8 j ∧ (j ≠ c.toInt.toNat → pj_ai (tx_B2_7 c u b C) 9 j = pj_ai C 9 j ∧ pj_ai (tx_B2_7 c u b C) 10 j = pj_ai C 10 j ∧ pj_ai (tx_B2_7 c u b C) 11 j = pj_ai C 11 j) := by
  obtain ⟨i, k, r, -⟩ := fr_87x C iC u b ru rb
  have i2 := (tx_ib_7 i c.toInt.toNat (F_87x C u b).1 (by omega)).2
  have q := tx_f3_7 i2 c j
  unfold tx_B2_7
  simp only [pj_bd_x]
  refine ⟨?_, fun h => ⟨?_, ?_, ?_⟩⟩
  · rw [q.1.1, pj_ai_wa_ne _ _ _ _ _ _ (by decide), k.2.2 8 (by decide) j]
  · rw [q.1.2, pj_ai_wa_nj _ _ _ _ _ h, k.2.2 9 (by decide) j]
  · rw [(q.2 h).1, pj_ai_wa_ne _ _ _ _ _ _ (by decide), k.2.2 10 (by decide) j]
  · rw [(q.2 h).2, pj_ai_wa_ne _ _ _ _ _ _ (by decide), k.2.2 11 (by decide) j]
theorem tx_f1_7 {C : pj_G} (iC : pj_Inv C) (c : Int32) (j : Nat) (h : j ≠ c.toInt.toNat) : pj_ai (tx_B1_7 c C) 8 j = pj_ai C 8 j ∧ pj_ai (tx_B1_7 c C) 9 j = pj_ai C 9 j ∧ pj_ai (tx_B1_7 c C) 10 j = pj_ai C 10 j ∧ pj_ai (tx_B1_7 c C) 11 j = pj_ai C 11 j := by
  have rb : (0 : Int) ≤ (pj_fi C 7 0).toInt ∧ (pj_fi C 7 0).toInt ≤ 8 := iC.2.1 7 0 (0, 8) rfl
  obtain ⟨i, k, r, -⟩ := fr_87x C iC (Int32.ofInt (-1)) (pj_fi C 7 0) (by decide) rb
  have i1 := (tx_ib_7 i c.toInt.toNat (F_87x C (Int32.ofInt (-1)) (pj_fi C 7 0)).1 (by omega)).1
  have e0 : pj_fi (pj_wa (F_87x C (Int32.ofInt (-1)) (pj_fi C 7 0)).2 8 c.toInt.toNat (F_87x C (Int32.ofInt (-1)) (pj_fi C 7 0)).1) 7 0 = pj_fi C 7 0 := by rw [pj_fi_wa, k.1 (7, 0) (by decide)]
  have e1 : pj_ai (pj_wa (F_87x C (Int32.ofInt (-1)) (pj_fi C 7 0)).2 8 c.toInt.toNat (F_87x C (Int32.ofInt (-1)) (pj_fi C 7 0)).1) 8 c.toInt.toNat = (F_87x C (Int32.ofInt (-1)) (pj_fi C 7 0)).1 := pj_ai_wa_eq i.1 rfl
  unfold tx_B1_7
  simp only [pj_nm_x, pj_bd_x]
  rw [e0, e1]
  have q := tx_f2_7 i1 c (F_87x C (Int32.ofInt (-1)) (pj_fi C 7 0)).1 (pj_fi C 7 0) (by omega) rb j
  refine ⟨?_, ?_, ?_, ?_⟩
  · rw [q.1, pj_ai_wa_nj _ _ _ _ _ h, k.2.2 8 (by decide) j]
  · rw [(q.2 h).1, pj_ai_wa_ne _ _ _ _ _ _ (by decide), k.2.2 9 (by decide) j]
  · rw [(q.2 h).2.1, pj_ai_wa_ne _ _ _ _ _ _ (by decide), k.2.2 10 (by decide) j]
  · rw [(q.2 h).2.2, pj_ai_wa_ne _ _ _ _ _ _ (by decide), k.2.2 11 (by decide) j]
/-- the stages in step -/
theorem tx_c4_7 {C R : pj_G} (h : tx_RD C R) (c z4 : Int32) (rc : 0 ≤ c.toInt ∧ c.toInt ≤ 9) (hr : (pj_fi R 171 22).toInt ≤ 9) : ((tx_s4 z4 R).1.toInt = 1 ∧ tx_RD (tx_B5_7 c C) (tx_s4 z4 R).2 ∧ (pj_fi (tx_s4 z4 R).2 171 22).toInt = (pj_fi R 171 22).toInt + 1 ∧ pj_fi (tx_s4 z4 R).2 171 21 = pj_fi R 171 21 ∧ pj_ai (tx_B5_7 c C) 11 c.toInt.toNat = pj_ai (tx_s4 z4 R).2 181 (z4 + Int32.ofInt 3).toInt.toNat) ∨ ((tx_s4 z4 R).1.toInt = 0 ∧ tx_ER (tx_B5_7 c C) (tx_s4 z4 R).2) := by
  have k3 : (Int32.ofInt 1).toInt = 1 := by decide
  have k0 : (Int32.ofInt 0).toInt = 0 := by decide
  have sc : (c + (Int32.ofInt 1)).toInt = c.toInt + 1 := by rw [pj_addI (by omega) (by omega), k3]
  obtain ⟨iR, kR, rR, -, -⟩ := fr_186_s9x R h.2.1
  have t := tx_dig h
  have a22 : pj_fi (F_186_s9x R).2 171 22 = pj_fi R 171 22 := kR.1 (171, 22) (by decide)
  have a21 : pj_fi (F_186_s9x R).2 171 21 = pj_fi R 171 21 := kR.1 (171, 21) (by decide)
  have r22 := tx_r22 h.2.1
  unfold tx_s4 tx_B5_7
  simp only [pj_nm_x, pj_bd_x]
  generalize hq : (F_186_s9x R).2 = R1 at *
  generalize hy : (F_186_s9x R).1 = y at *
  generalize hp : (F_83x C ((Int8.ofInt 49).toInt32) ((Int8.ofInt 57).toInt32)).2 = C1 at *
  generalize hx : (F_83x C ((Int8.ofInt 49).toInt32) ((Int8.ofInt 57).toInt32)).1 = x at *
  have a22' : (pj_fi R1 171 22).toInt = (pj_fi R 171 22).toInt := by rw [a22]
  have sy : (Int32.ofInt 1 + y).toInt = 1 + y.toInt := by rw [pj_addI (by omega) (by omega), k3]
  have s22 : (pj_fi R1 171 22 + Int32.ofInt 1).toInt = (pj_fi R 171 22).toInt + 1 := by rw [pj_addI (by omega) (by omega), k3, a22']
  have i1 := tx_i181 iR (z4 + Int32.ofInt 3).toInt.toNat (Int32.ofInt 1 + y) (by omega)
  have i2 := tx_i22 i1 (pj_fi R1 171 22 + Int32.ofInt 1) (by omega)
  have ea : pj_ai (pj_wv (pj_wa R1 181 (z4 + Int32.ofInt 3).toInt.toNat (Int32.ofInt 1 + y)) 171 22 (.int (pj_fi R1 171 22 + Int32.ofInt 1))) 181 (z4 + Int32.ofInt 3).toInt.toNat = Int32.ofInt 1 + y := by rw [pj_ai_wv, pj_ai_wa_eq iR.1 rfl]
  have e22 : pj_fi (pj_wv (pj_wa R1 181 (z4 + Int32.ofInt 3).toInt.toNat (Int32.ofInt 1 + y)) 171 22 (.int (pj_fi R1 171 22 + Int32.ofInt 1))) 171 22 = pj_fi R1 171 22 + Int32.ofInt 1 := pj_fi_wi i1.1 (ci := 12) rfl _
  have e21 : pj_fi (pj_wv (pj_wa R1 181 (z4 + Int32.ofInt 3).toInt.toNat (Int32.ofInt 1 + y)) 171 22 (.int (pj_fi R1 171 22 + Int32.ofInt 1))) 171 21 = pj_fi R 171 21 := by rw [pj_fi_wv_ne _ _ _ _ _ _ (by decide), pj_fi_wa, a21]
  rw [ea]
  rcases t with ⟨t1, t2, t3⟩ | ⟨t1, t3⟩
  · have sx : (Int32.ofInt 1 + x).toInt = 1 + x.toInt := by rw [pj_addI (by omega) (by omega), k3]
    have j1 := tx_iw_7 t3.1 c.toInt.toNat (Int32.ofInt 1 + x) (by omega)
    have j2 := tx_ic_7 j1 (c + Int32.ofInt 1) (by omega)
    rw [pj_b0_leF (show 0 < (Int32.ofInt 1 + y).toInt by omega), pj_cF]
    exact .inl ⟨k3, tx_wvC (tx_waC (tx_wvR (tx_waR t3 i1 (by decide)) i2 (by decide) (by decide)) j1 (by decide)) j2 (by decide), by show (pj_fi _ 171 22).toInt = _; rw [e22]; exact s22, e21, by dsimp only; rw [ea, pj_ai_wv, pj_ai_wa_eq t3.1.1 rfl, Int32.toInt_inj.mp t1]⟩
  · have hx0 : x.toInt = 0 ∨ 0 ≤ x.toInt ∧ x.toInt ≤ 8 := by
      have w := fr_83x C h.1 ((Int8.ofInt 49).toInt32) ((Int8.ofInt 57).toInt32) (by decide) (by decide)
      rw [hx] at w
      have w1 := w.2.2.1
      have w2 := w.2.2.2.1.1
      have k5 : (((Int8.ofInt 49).toInt32)).toInt = 49 := by decide
      have k6 : (((Int8.ofInt 57).toInt32)).toInt = 57 := by decide
      omega
    have sx : (Int32.ofInt 1 + x).toInt = 1 + x.toInt := by rw [pj_addI (by omega) (by omega), k3]
    have j1 := tx_iw_7 t3.1 c.toInt.toNat (Int32.ofInt 1 + x) (by omega)
    have j2 := tx_ic_7 j1 (c + Int32.ofInt 1) (by omega)
    rw [pj_b0_leT (show (Int32.ofInt 1 + y).toInt ≤ 0 by omega), pj_cT]
    exact .inr ⟨k0, tx_ewvC (tx_ewaC (tx_ewvR (tx_ewaR t3 i1) i2 (by decide) (by decide)) j1) j2 (by decide)⟩
theorem tx_c3_7 {C R : pj_G} (h : tx_RD C R) (c z4 : Int32) (rc : 0 ≤ c.toInt ∧ c.toInt ≤ 9) (hr : (pj_fi R 171 22).toInt ≤ 9) : ((tx_s3 z4 R).1.toInt = 1 ∧ tx_RD (tx_B4_7 c C) (tx_s3 z4 R).2 ∧ (pj_fi (tx_s3 z4 R).2 171 22).toInt = (pj_fi R 171 22).toInt + 1 ∧ pj_fi (tx_s3 z4 R).2 171 21 = pj_fi R 171 21 ∧ pj_ai (tx_B4_7 c C) 11 c.toInt.toNat = pj_ai (tx_s3 z4 R).2 181 (z4 + Int32.ofInt 3).toInt.toNat) ∨ ((tx_s3 z4 R).1.toInt = 0 ∧ tx_ER (tx_B4_7 c C) (tx_s3 z4 R).2) := by
  have k1 : (((Int8.ofInt 58).toInt32)).toInt = 58 := by decide
  have k0 : (Int32.ofInt 0).toInt = 0 := by decide
  obtain ⟨iR, kR, -, -, -⟩ := fr_183x R h.2.1 ((Int8.ofInt 58).toInt32) (by omega)
  have a22 : pj_fi (F_183x R ((Int8.ofInt 58).toInt32)).2 171 22 = pj_fi R 171 22 := kR.1 (171, 22) (by decide)
  have a21 : pj_fi (F_183x R ((Int8.ofInt 58).toInt32)).2 171 21 = pj_fi R 171 21 := kR.1 (171, 21) (by decide)
  have t := tx_col h ((Int8.ofInt 58).toInt32) (by omega)
  unfold tx_s3 tx_B4_7
  simp only [pj_bd_x]
  rcases t with ⟨t1, t3⟩ | ⟨t1, t3⟩
  · rw [pj_b0_neT (show ¬ (F_183x R ((Int8.ofInt 58).toInt32)).1.toInt = 0 by omega), pj_cT]
    have w := tx_c4_7 t3 c z4 rc (by rw [a22]; exact hr)
    rw [a22, a21] at w
    exact w
  · rw [pj_b0_neF t1, pj_cF]
    obtain ⟨i2, e2⟩ := tx_D5_7 t3.1 (tx_enb t3) c rc
    exact .inr ⟨k0, tx_eC t3 i2 e2⟩
theorem tx_c2_7 {C R : pj_G} (h : tx_RD C R) (c z4 : Int32) (rz : 0 ≤ z4.toInt ∧ z4.toInt ≤ 36) (rc : 0 ≤ c.toInt ∧ c.toInt ≤ 9) (hr : (pj_fi R 171 22).toInt ≤ 9) : ((tx_s2 z4 R).1.toInt = 1 ∧ tx_RD (tx_B3_7 c C) (tx_s2 z4 R).2 ∧ (pj_fi (tx_s2 z4 R).2 171 22).toInt = (pj_fi R 171 22).toInt + 1 ∧ pj_fi (tx_s2 z4 R).2 171 21 = pj_fi R 171 21 ∧ pj_ai (tx_B3_7 c C) 10 c.toInt.toNat = pj_ai (tx_s2 z4 R).2 181 (z4 + Int32.ofInt 2).toInt.toNat ∧ pj_ai (tx_B3_7 c C) 11 c.toInt.toNat = pj_ai (tx_s2 z4 R).2 181 (z4 + Int32.ofInt 3).toInt.toNat) ∨ ((tx_s2 z4 R).1.toInt = 0 ∧ tx_ER (tx_B3_7 c C) (tx_s2 z4 R).2) := by
  have k0 : (Int32.ofInt 0).toInt = 0 := by decide
  have k2 : (Int32.ofInt 2).toInt = 2 := by decide
  obtain ⟨iR, kR, rR, xR⟩ := fr_187ex R h.2.1 (Int32.ofInt 2) (by omega)
  have a22 : pj_fi (F_187ex R (Int32.ofInt 2)).2 171 22 = pj_fi R 171 22 := kR.1 (171, 22) (by decide)
  have a21 : pj_fi (F_187ex R (Int32.ofInt 2)).2 171 21 = pj_fi R 171 21 := kR.1 (171, 21) (by decide)
  have b99 := xR.2.1 k2
  have t := tx_num h (Int32.ofInt 2) (by omega)
  unfold tx_s2 tx_B3_7
  simp only [pj_nm_x, pj_bd_x]
  generalize hq : (F_187ex R (Int32.ofInt 2)).2 = R1 at *
  generalize hy : (F_187ex R (Int32.ofInt 2)).1 = y at *
  generalize hp : (F_86x C (Int32.ofInt 2)).2 = C1 at *
  generalize hx : (F_86x C (Int32.ofInt 2)).1 = x at *
  have i1 := tx_i181 iR (z4 + Int32.ofInt 2).toInt.toNat y (by omega)
  have ea : pj_ai (pj_wa R1 181 (z4 + Int32.ofInt 2).toInt.toNat y) 181 (z4 + Int32.ofInt 2).toInt.toNat = y := pj_ai_wa_eq iR.1 rfl
  have f22 : pj_fi (pj_wa R1 181 (z4 + Int32.ofInt 2).toInt.toNat y) 171 22 = pj_fi R 171 22 := by rw [pj_fi_wa, a22]
  have f21 : pj_fi (pj_wa R1 181 (z4 + Int32.ofInt 2).toInt.toNat y) 171 21 = pj_fi R 171 21 := by rw [pj_fi_wa, a21]
  rw [ea]
  rcases t with ⟨t1, t2, t3⟩ | ⟨t1, t3⟩
  · rw [pj_b0_ltF t2, pj_cF]
    have w := tx_c3_7 (tx_waC (tx_waR t3 i1 (by decide)) (tx_ip_7 t3.1 c.toInt.toNat x) (by decide)) c z4 rc (by rw [f22]; exact hr)
    rw [f22, f21] at w
    rcases w with ⟨w1, w2, w3, w4, w5⟩ | w
    · have k3 : (Int32.ofInt 3).toInt = 3 := by decide
      have sz2 : (z4 + Int32.ofInt 2).toInt = z4.toInt + 2 := by rw [pj_addI (by omega) (by omega), k2]
      have sz3 : (z4 + Int32.ofInt 3).toInt = z4.toInt + 3 := by rw [pj_addI (by omega) (by omega), k3]
      have d1 := ((tx_f4_7 (tx_ip_7 t3.1 c.toInt.toNat x) c c.toInt.toNat).1.2.2).trans (pj_ai_wa_eq t3.1.1 rfl)
      have d2 := (tx_g3 i1 z4 (z4 + Int32.ofInt 2).toInt.toNat (by omega)).trans ea
      exact .inl ⟨w1, w2, w3, w4, d1.trans (t1.trans d2.symm), w5⟩
    · exact .inr w
  · rw [pj_b0_ltT (show y.toInt < 0 by omega), pj_cT]
    have t4 := tx_ewaC (tx_ewaR t3 i1) (tx_ip_7 t3.1 c.toInt.toNat x)
    obtain ⟨i2, e2⟩ := tx_D4_7 t4.1 (tx_enb t4) c rc
    exact .inr ⟨k0, tx_eC t4 i2 e2⟩
theorem tx_t1_7 {C R : pj_G} (z4 yp c y : Int32) (rz : 0 ≤ z4.toInt ∧ z4.toInt ≤ 36) (rp : -1 ≤ yp.toInt ∧ yp.toInt ≤ 7) (ry : 0 ≤ y.toInt ∧ y.toInt ≤ 7) (rc : 0 ≤ c.toInt ∧ c.toInt ≤ 9) (hr : (pj_fi R 171 22).toInt ≤ 9) (st : (y.toInt = yp.toInt ∧ 0 ≤ yp.toInt ∧ tx_RD C R) ∨ (yp.toInt = -1 ∧ tx_ER C R)) : ((tx_s1 z4 yp R).1.toInt = 1 ∧ tx_RD (tx_B3_7 c (pj_wa C 9 c.toInt.toNat y)) (tx_s1 z4 yp R).2 ∧ (pj_fi (tx_s1 z4 yp R).2 171 22).toInt = (pj_fi R 171 22).toInt + 1 ∧ pj_fi (tx_s1 z4 yp R).2 171 21 = pj_fi R 171 21 ∧ pj_ai (tx_s1 z4 yp R).2 181 z4.toInt.toNat = pj_fi R 171 23 ∧ pj_ai (tx_B3_7 c (pj_wa C 9 c.toInt.toNat y)) 9 c.toInt.toNat = pj_ai (tx_s1 z4 yp R).2 181 (z4 + Int32.ofInt 1).toInt.toNat ∧ pj_ai (tx_B3_7 c (pj_wa C 9 c.toInt.toNat y)) 10 c.toInt.toNat = pj_ai (tx_s1 z4 yp R).2 181 (z4 + Int32.ofInt 2).toInt.toNat ∧ pj_ai (tx_B3_7 c (pj_wa C 9 c.toInt.toNat y)) 11 c.toInt.toNat = pj_ai (tx_s1 z4 yp R).2 181 (z4 + Int32.ofInt 3).toInt.toNat ∧ 0 ≤ yp.toInt) ∨ ((tx_s1 z4 yp R).1.toInt = 0 ∧ tx_ER (tx_B3_7 c (pj_wa C 9 c.toInt.toNat y)) (tx_s1 z4 yp R).2) := by
  have k0 : (Int32.ofInt 0).toInt = 0 := by decide
  have k1 : (Int32.ofInt 1).toInt = 1 := by decide
  have iR : pj_Inv R := by
    rcases st with ⟨_, _, s⟩ | ⟨_, s⟩
    · exact s.2.1
    · exact s.2.1
  have r23 : (-1 : Int) ≤ (pj_fi R 171 23).toInt ∧ (pj_fi R 171 23).toInt ≤ 7 := iR.2.1 171 23 (-1, 7) rfl
  have sz5 : (z4 + Int32.ofInt 1).toInt = z4.toInt + 1 := by rw [pj_addI (by omega) (by omega), k1]
  have i1 := tx_i181 iR (z4 + Int32.ofInt 1).toInt.toNat yp (by omega)
  have i2 := tx_i181 i1 z4.toInt.toNat (pj_fi R 171 23) (by omega)
  have ea : pj_ai (pj_wa (pj_wa R 181 (z4 + Int32.ofInt 1).toInt.toNat yp) 181 z4.toInt.toNat (pj_fi R 171 23)) 181 (z4 + Int32.ofInt 1).toInt.toNat = yp := by rw [pj_ai_wa_nj _ _ _ _ _ (by omega), pj_ai_wa_eq iR.1 rfl]
  have f22 : pj_fi (pj_wa (pj_wa R 181 (z4 + Int32.ofInt 1).toInt.toNat yp) 181 z4.toInt.toNat (pj_fi R 171 23)) 171 22 = pj_fi R 171 22 := by rw [pj_fi_wa, pj_fi_wa]
  have f21 : pj_fi (pj_wa (pj_wa R 181 (z4 + Int32.ofInt 1).toInt.toNat yp) 181 z4.toInt.toNat (pj_fi R 171 23)) 171 21 = pj_fi R 171 21 := by rw [pj_fi_wa, pj_fi_wa]
  have e : tx_s1 z4 yp R = cond (pj_c1 .ge yp 0) (tx_s2 z4 (pj_wa (pj_wa R 181 (z4 + Int32.ofInt 1).toInt.toNat yp) 181 z4.toInt.toNat (pj_fi R 171 23))) (Int32.ofInt 0, pj_wa (pj_wa R 181 (z4 + Int32.ofInt 1).toInt.toNat yp) 181 z4.toInt.toNat (pj_fi R 171 23)) := by
    unfold tx_s1
    simp only [pj_nm_x]
    rw [ea]
  rw [e]
  rcases st with ⟨sy, s0, s⟩ | ⟨s0, s⟩
  · rw [pj_b0_geT s0, pj_cT]
    have w := tx_c2_7 (tx_waC (tx_waR (tx_waR s i1 (by decide)) i2 (by decide)) (tx_ib_7 s.1 c.toInt.toNat y ry).2 (by decide)) c z4 rz rc (by rw [f22]; exact hr)
    rw [f22, f21] at w
    rcases w with ⟨w1, w2, w3, w4, w5, w6⟩ | w
    · have k2 : (Int32.ofInt 2).toInt = 2 := by decide
      have k3 : (Int32.ofInt 3).toInt = 3 := by decide
      have sz2 : (z4 + Int32.ofInt 2).toInt = z4.toInt + 2 := by rw [pj_addI (by omega) (by omega), k2]
      have sz3 : (z4 + Int32.ofInt 3).toInt = z4.toInt + 3 := by rw [pj_addI (by omega) (by omega), k3]
      have d1 := ((tx_f3_7 (tx_ib_7 s.1 c.toInt.toNat y ry).2 c c.toInt.toNat).1.2).trans (pj_ai_wa_eq s.1.1 rfl)
      have d2 := (tx_g2 i2 z4 (z4 + Int32.ofInt 1).toInt.toNat (by omega) (by omega)).trans ea
      have d3 := (tx_g2 i2 z4 z4.toInt.toNat (by omega) (by omega)).trans (pj_ai_wa_eq i1.1 rfl)
      exact .inl ⟨w1, w2, w3, w4, d3, d1.trans ((Int32.toInt_inj.mp sy).trans d2.symm), w5, w6, s0⟩
    · exact .inr w
  · rw [pj_b0_geF (show yp.toInt < 0 by omega), pj_cF]
    have t4 := tx_ewaC (tx_ewaR (tx_ewaR s i1) i2) (tx_ib_7 s.1 c.toInt.toNat y ry).2
    obtain ⟨i5, e5⟩ := tx_D3_7 t4.1 (tx_enb t4) c rc
    exact .inr ⟨k0, tx_eC t4 i5 e5⟩
theorem tx_c1b_7 {C1 R1 : pj_G} {b x y z4 c : Int32} (rz : 0 ≤ z4.toInt ∧ z4.toInt ≤ 36) (rc : 0 ≤ c.toInt ∧ c.toInt ≤ 9) (rb : (0 : Int) ≤ b.toInt ∧ b.toInt ≤ 8) (rx : 0 ≤ x.toInt ∧ x.toInt ≤ 7) (ry : -1 ≤ y.toInt ∧ y.toInt ≤ 7) (hr : (pj_fi R1 171 22).toInt ≤ 9) (l : (x.toInt = y.toInt ∧ 0 ≤ y.toInt ∧ tx_RD C1 R1) ∨ (y.toInt = -1 ∧ tx_ER C1 R1)) (p : Int32 × pj_G) (hp : p = cond (pj_c1 .lt y 0) (Int32.ofInt (-1), pj_wv R1 171 23 (.int y)) (tx_S (pj_wv R1 171 23 (.int y)) (pj_fi R1 171 17) y b)) : ((tx_s1 z4 p.1 p.2).1.toInt = 1 ∧ tx_RD (tx_B2_7 c (pj_ai (pj_wa C1 8 c.toInt.toNat x) 8 c.toInt.toNat) b (pj_wa C1 8 c.toInt.toNat x)) (tx_s1 z4 p.1 p.2).2 ∧ (pj_fi (tx_s1 z4 p.1 p.2).2 171 22).toInt = (pj_fi R1 171 22).toInt + 1 ∧ pj_fi (tx_s1 z4 p.1 p.2).2 171 21 = pj_fi R1 171 21 ∧ pj_ai (tx_B2_7 c (pj_ai (pj_wa C1 8 c.toInt.toNat x) 8 c.toInt.toNat) b (pj_wa C1 8 c.toInt.toNat x)) 8 c.toInt.toNat = pj_ai (tx_s1 z4 p.1 p.2).2 181 z4.toInt.toNat ∧ pj_ai (tx_B2_7 c (pj_ai (pj_wa C1 8 c.toInt.toNat x) 8 c.toInt.toNat) b (pj_wa C1 8 c.toInt.toNat x)) 9 c.toInt.toNat = pj_ai (tx_s1 z4 p.1 p.2).2 181 (z4 + Int32.ofInt 1).toInt.toNat ∧ pj_ai (tx_B2_7 c (pj_ai (pj_wa C1 8 c.toInt.toNat x) 8 c.toInt.toNat) b (pj_wa C1 8 c.toInt.toNat x)) 10 c.toInt.toNat = pj_ai (tx_s1 z4 p.1 p.2).2 181 (z4 + Int32.ofInt 2).toInt.toNat ∧ pj_ai (tx_B2_7 c (pj_ai (pj_wa C1 8 c.toInt.toNat x) 8 c.toInt.toNat) b (pj_wa C1 8 c.toInt.toNat x)) 11 c.toInt.toNat = pj_ai (tx_s1 z4 p.1 p.2).2 181 (z4 + Int32.ofInt 3).toInt.toNat) ∨ ((tx_s1 z4 p.1 p.2).1.toInt = 0 ∧ tx_ER (tx_B2_7 c (pj_ai (pj_wa C1 8 c.toInt.toNat x) 8 c.toInt.toNat) b (pj_wa C1 8 c.toInt.toNat x)) (tx_s1 z4 p.1 p.2).2) := by
  have cm : (Int32.ofInt (-1)).toInt = -1 := by decide
  have i0 : pj_Inv C1 ∧ pj_Inv R1 := by
    rcases l with ⟨_, _, s⟩ | ⟨_, s⟩
    · exact ⟨s.1, s.2.1⟩
    · exact ⟨s.1, s.2.1⟩
  have i23 := tx_i23 i0.2 y (by omega)
  have j1 := (tx_ib_7 i0.1 c.toInt.toNat x rx).1
  have w22 : pj_fi (pj_wv R1 171 23 (.int y)) 171 22 = pj_fi R1 171 22 := pj_fi_wv_ne _ _ _ _ _ _ (by decide)
  have w21 : pj_fi (pj_wv R1 171 23 (.int y)) 171 21 = pj_fi R1 171 21 := pj_fi_wv_ne _ _ _ _ _ _ (by decide)
  have w17 : pj_fi (pj_wv R1 171 23 (.int y)) 171 17 = pj_fi R1 171 17 := pj_fi_wv_ne _ _ _ _ _ _ (by decide)
  have ex : pj_ai (pj_wa C1 8 c.toInt.toNat x) 8 c.toInt.toNat = x := pj_ai_wa_eq i0.1.1 rfl
  rw [ex]
  unfold tx_B2_7
  rw [pj_bd_p]
  have rv := (fr_87x (pj_wa C1 8 c.toInt.toNat x) j1 x b (by omega) rb).2.2.1
  rcases l with ⟨l1, l2, l3⟩ | ⟨l1, l3⟩
  · rw [pj_b0_ltF l2, pj_cF, ← w17] at hp
    have exy : x = y := Int32.toInt_inj.mp l1
    subst exy
    have t := tx_87b (tx_waC (tx_wvR l3 i23 (by decide) (by decide)) j1 (by decide)) x b rx rb
    obtain ⟨s22, s21, sr, s23⟩ := tx_sf i23 x b rb
    rw [← hp] at t s22 s21 sr s23
    have w := tx_t1_7 (C := (F_87x (pj_wa C1 8 c.toInt.toNat x) x b).2) (R := p.2) z4 p.1 c (F_87x (pj_wa C1 8 c.toInt.toNat x) x b).1 rz sr rv rc (by rw [s22, w22]; exact hr) (by
      rcases t with ⟨t1, t2, t3⟩ | t
      · exact .inl ⟨t1, t2, t3⟩
      · exact .inr t)
    rw [s22, s21, w22, w21] at w
    rcases w with ⟨w1, w2, w3, w4, w5, w6⟩ | w
    · obtain ⟨iF, kF, -⟩ := fr_87x (pj_wa C1 8 c.toInt.toNat x) j1 x b (by omega) rb
      have v23 : pj_fi (pj_wv R1 171 23 (.int x)) 171 23 = x := pj_fi_wi i0.2.1 (ci := 12) rfl _
      have iF2 := (tx_ib_7 iF c.toInt.toNat (F_87x (pj_wa C1 8 c.toInt.toNat x) x b).1 rv).2
      have d1 := (((tx_f3_7 iF2 c c.toInt.toNat).1.1).trans (pj_ai_wa_ne _ _ _ _ _ _ (by decide))).trans ((kF.2.2 8 (by decide) c.toInt.toNat).trans (pj_ai_wa_eq i0.1.1 rfl))
      exact .inl ⟨w1, w2, w3, w4, d1.trans ((w5.trans (s23.trans v23)).symm), w6.1, w6.2.1, w6.2.2.1⟩
    · exact .inr w
  · rw [pj_b0_ltT (show y.toInt < 0 by omega), pj_cT] at hp
    have t4 := tx_ewaC (tx_ewvR l3 i23 (by decide) (by decide)) j1
    obtain ⟨d1, d2, d3⟩ := tx_87d j1 (tx_enb t4) x b (by omega) rb
    subst hp
    have w := tx_t1_7 (C := (F_87x (pj_wa C1 8 c.toInt.toNat x) x b).2) (R := pj_wv R1 171 23 (.int y)) z4 (Int32.ofInt (-1)) c (F_87x (pj_wa C1 8 c.toInt.toNat x) x b).1 rz (by omega) rv rc (by rw [w22]; exact hr) (.inr ⟨cm, tx_eC t4 d1 d3⟩)
    rw [w22, w21] at w
    rcases w with ⟨-, -, -, -, -, -, -, -, w9⟩ | w
    · exfalso
      omega
    · exact .inr w
/-- a whole crossing in step -/
theorem tx_c1_7 {C R : pj_G} (h : tx_RD C R) (c : Int32) (rc : 0 ≤ c.toInt ∧ c.toInt ≤ 9) (hr : (pj_fi R 171 22).toInt ≤ 9) (hb : pj_fi C 7 0 = pj_fi R 171 21) : ((F_191x R).1.toInt = 1 ∧ tx_RD (tx_B1_7 c C) (F_191x R).2 ∧ (pj_fi (F_191x R).2 171 22).toInt = (pj_fi R 171 22).toInt + 1 ∧ pj_fi (F_191x R).2 171 21 = pj_fi R 171 21 ∧ pj_ai (tx_B1_7 c C) 8 c.toInt.toNat = pj_ai (F_191x R).2 181 ((Int32.ofInt 4) * pj_fi R 171 22).toInt.toNat ∧ pj_ai (tx_B1_7 c C) 9 c.toInt.toNat = pj_ai (F_191x R).2 181 ((Int32.ofInt 4) * pj_fi R 171 22 + Int32.ofInt 1).toInt.toNat ∧ pj_ai (tx_B1_7 c C) 10 c.toInt.toNat = pj_ai (F_191x R).2 181 ((Int32.ofInt 4) * pj_fi R 171 22 + Int32.ofInt 2).toInt.toNat ∧ pj_ai (tx_B1_7 c C) 11 c.toInt.toNat = pj_ai (F_191x R).2 181 ((Int32.ofInt 4) * pj_fi R 171 22 + Int32.ofInt 3).toInt.toNat) ∨ ((F_191x R).1.toInt = 0 ∧ tx_ER (tx_B1_7 c C) (F_191x R).2) := by
  have k4 : (Int32.ofInt 4).toInt = 4 := by decide
  have cm : (Int32.ofInt (-1)).toInt = -1 := by decide
  have rb := tx_r21 h.2.1
  have r22 := tx_r22 h.2.1
  have sz4 : ((Int32.ofInt 4) * pj_fi R 171 22).toInt = 4 * (pj_fi R 171 22).toInt := pj_mulL k4 (by omega) (by omega)
  have l := tx_let h (pj_fi R 171 21) (((Int8.ofInt 97).toInt32) + pj_fi R 171 21 - Int32.ofInt 1) rb (tx_hi _ rb)
  rw [← tx_87a] at l
  obtain ⟨iL, kL, rL, -, -⟩ := fr_188x R h.2.1 (pj_fi R 171 21) rb
  have a22 : pj_fi (F_188x R (pj_fi R 171 21)).2 171 22 = pj_fi R 171 22 := kL.1 (171, 22) (by decide)
  have a21 : pj_fi (F_188x R (pj_fi R 171 21)).2 171 21 = pj_fi R 171 21 := kL.1 (171, 21) (by decide)
  obtain ⟨iF, kF, rF, -⟩ := fr_87x C h.1 (Int32.ofInt (-1)) (pj_fi R 171 21) (by omega) rb
  have cb : pj_fi (pj_wa (F_87x C (Int32.ofInt (-1)) (pj_fi R 171 21)).2 8 c.toInt.toNat (F_87x C (Int32.ofInt (-1)) (pj_fi R 171 21)).1) 7 0 = pj_fi R 171 21 := by rw [pj_fi_wa, kF.1 (7, 0) (by decide)]; exact hb
  have w := tx_c1b_7 (c := c) (z4 := (Int32.ofInt 4) * pj_fi R 171 22) (by omega) rc rb rF rL (by rw [a22]; exact hr) l _ (tx_190 R (pj_fi R 171 21))
  rw [← tx_191, a22, a21] at w
  unfold tx_B1_7
  rw [hb, pj_bd_p, pj_nm_e, cb]
  exact w
/-! the class's stages (its river at cell 14) -/
noncomputable def tx_B5_14 (c : Int32) (C : pj_G) : pj_G := pj_bd (F_83x C ((Int8.ofInt 49).toInt32) ((Int8.ofInt 57).toInt32)) (fun y19 G20 => pj_nm ((Int32.ofInt 1) + y19) (fun z21 => pj_nm (pj_wa G20 18 c.toInt.toNat z21) (fun G22 => pj_nm (c + (Int32.ofInt 1)) (fun z23 => pj_wv G22 14 1 (.int z23)))))
noncomputable def tx_B4_14 (c : Int32) (C : pj_G) : pj_G := tx_B5_14 c (F_83x C ((Int8.ofInt 58).toInt32) ((Int8.ofInt 58).toInt32)).2
noncomputable def tx_B3_14 (c : Int32) (C : pj_G) : pj_G := pj_bd (F_86x C (Int32.ofInt 2)) (fun y14 G15 => tx_B4_14 c (pj_wa G15 17 c.toInt.toNat y14))
noncomputable def tx_B2_14 (c u b : Int32) (C : pj_G) : pj_G := pj_bd (F_87x C u b) (fun y11 G12 => tx_B3_14 c (pj_wa G12 16 c.toInt.toNat y11))
noncomputable def tx_B1_14 (c : Int32) (C : pj_G) : pj_G := pj_bd (F_87x C (Int32.ofInt (-1)) (pj_fi C 14 0)) (fun y6 G7 => pj_nm (pj_wa G7 15 c.toInt.toNat y6) (fun G8 => tx_B2_14 c (pj_ai G8 15 c.toInt.toNat) (pj_fi G8 14 0) G8))
noncomputable def tx_B5k_14 (c : Int32) (K : Int32 → pj_G → pj_G) (C : pj_G) : pj_G := pj_bd (F_83x C ((Int8.ofInt 49).toInt32) ((Int8.ofInt 57).toInt32)) (fun y19 G20 => pj_nm ((Int32.ofInt 1) + y19) (fun z21 => pj_nm (pj_wa G20 18 c.toInt.toNat z21) (fun G22 => pj_nm (c + (Int32.ofInt 1)) (fun z23 => pj_nm (pj_wv G22 14 1 (.int z23)) (fun G24 => K z23 G24)))))
noncomputable def tx_B4k_14 (c : Int32) (K : Int32 → pj_G → pj_G) (C : pj_G) : pj_G := pj_bd (F_83x C ((Int8.ofInt 58).toInt32) ((Int8.ofInt 58).toInt32)) (fun _ G18 => tx_B5k_14 c K G18)
noncomputable def tx_B3k_14 (c : Int32) (K : Int32 → pj_G → pj_G) (C : pj_G) : pj_G := pj_bd (F_86x C (Int32.ofInt 2)) (fun y14 G15 => pj_nm (pj_wa G15 17 c.toInt.toNat y14) (fun G16 => tx_B4k_14 c K G16))
noncomputable def tx_B2k_14 (c u b : Int32) (K : Int32 → pj_G → pj_G) (C : pj_G) : pj_G := pj_bd (F_87x C u b) (fun y11 G12 => pj_nm (pj_wa G12 16 c.toInt.toNat y11) (fun G13 => tx_B3k_14 c K G13))
noncomputable def tx_B1k_14 (c : Int32) (K : Int32 → pj_G → pj_G) (C : pj_G) : pj_G := pj_nm (pj_fi C 14 0) (fun y5 => pj_bd (F_87x C (Int32.ofInt (-1)) y5) (fun y6 G7 => pj_nm (pj_wa G7 15 c.toInt.toNat y6) (fun G8 => pj_nm (pj_ai G8 15 c.toInt.toNat) (fun z9 => pj_nm (pj_fi G8 14 0) (fun y10 => tx_B2k_14 c z9 y10 K G8)))))
theorem tx_k5_14 (c : Int32) (K : Int32 → pj_G → pj_G) (C : pj_G) : tx_B5k_14 c K C = K (c + (Int32.ofInt 1)) (tx_B5_14 c C) := by
  unfold tx_B5k_14 tx_B5_14
  rw [pj_bd_p, pj_bd_p, pj_nm_e, pj_nm_e, pj_nm_e, pj_nm_e, pj_nm_e, pj_nm_e, pj_nm_e]
theorem tx_k4_14 (c : Int32) (K : Int32 → pj_G → pj_G) (C : pj_G) : tx_B4k_14 c K C = K (c + (Int32.ofInt 1)) (tx_B4_14 c C) := by
  unfold tx_B4k_14 tx_B4_14
  rw [pj_bd_p, tx_k5_14]
theorem tx_k3_14 (c : Int32) (K : Int32 → pj_G → pj_G) (C : pj_G) : tx_B3k_14 c K C = K (c + (Int32.ofInt 1)) (tx_B3_14 c C) := by
  unfold tx_B3k_14 tx_B3_14
  rw [pj_bd_p, pj_bd_p, pj_nm_e, tx_k4_14]
theorem tx_k2_14 (c u b : Int32) (K : Int32 → pj_G → pj_G) (C : pj_G) : tx_B2k_14 c u b K C = K (c + (Int32.ofInt 1)) (tx_B2_14 c u b C) := by
  unfold tx_B2k_14 tx_B2_14
  rw [pj_bd_p, pj_bd_p, pj_nm_e, tx_k3_14]
theorem tx_k1_14 (c : Int32) (K : Int32 → pj_G → pj_G) (C : pj_G) : tx_B1k_14 c K C = K (c + (Int32.ofInt 1)) (tx_B1_14 c C) := by
  unfold tx_B1k_14 tx_B1_14
  simp only [pj_nm_x, pj_bd_x, tx_k2_14]
theorem tx_L41k_14 (C0 : pj_G) (f : Nat) (c : Int32) (C : pj_G) : L_41_14x C0 (f + 1) c C = cond (pj_c1 .ge c ((Int8.ofInt 10).toInt32)) C (pj_bd (F_82x C ((Int8.ofInt 59).toInt32)) (fun y2 G3 => cond (pj_c1 .eq y2 0) G3 (tx_B1k_14 c (L_41_14x C0 f) G3))) := by
  rw [L_41_14x_s0]
  unfold tx_B1k_14 tx_B2k_14 tx_B3k_14 tx_B4k_14 tx_B5k_14
  rfl
theorem tx_L41_14 (C0 : pj_G) (f : Nat) (c : Int32) (C : pj_G) : L_41_14x C0 (f + 1) c C = cond (pj_c1 .ge c ((Int8.ofInt 10).toInt32)) C (pj_bd (F_82x C ((Int8.ofInt 59).toInt32)) (fun y2 G3 => cond (pj_c1 .eq y2 0) G3 (L_41_14x C0 f (c + (Int32.ofInt 1)) (tx_B1_14 c G3)))) := by
  rw [tx_L41k_14]
  simp only [tx_k1_14]
theorem tx_ib_14 {C : pj_G} (iC : pj_Inv C) (j : Nat) (x : Int32) (hx : 0 ≤ x.toInt ∧ x.toInt ≤ 7) : pj_Inv (pj_wa C 15 j x) ∧ pj_Inv (pj_wa C 16 j x) := ⟨pj_Inv_wa iC rfl (fun q hq => by cases hq; exact ⟨by show (0 : Int) ≤ _; omega, by show _ ≤ (7 : Int); omega, by show _ ≤ (0 : Int) ∨ (0 : Int) ≤ _; omega⟩) (fun n hn => by cases hn), pj_Inv_wa iC rfl (fun q hq => by cases hq; exact ⟨by show (0 : Int) ≤ _; omega, by show _ ≤ (7 : Int); omega, by show _ ≤ (0 : Int) ∨ (0 : Int) ≤ _; omega⟩) (fun n hn => by cases hn)⟩
theorem tx_ip_14 {C : pj_G} (iC : pj_Inv C) (j : Nat) (x : Int32) : pj_Inv (pj_wa C 17 j x) := pj_Inv_wa iC rfl (fun q hq => by cases hq) (fun n hn => by cases hn)
theorem tx_iw_14 {C : pj_G} (iC : pj_Inv C) (j : Nat) (x : Int32) (hx : 0 ≤ x.toInt ∧ x.toInt ≤ 9) : pj_Inv (pj_wa C 18 j x) := pj_Inv_wa iC rfl (fun q hq => by cases hq; exact ⟨by show (0 : Int) ≤ _; omega, by show _ ≤ (9 : Int); omega, by show _ ≤ (0 : Int) ∨ (0 : Int) ≤ _; omega⟩) (fun n hn => by cases hn)
theorem tx_ic_14 {C : pj_G} (iC : pj_Inv C) (x : Int32) (hx : 0 ≤ x.toInt ∧ x.toInt ≤ 10) : pj_Inv (pj_wv C 14 1 (.int x)) := pj_Inv_wi iC (ci := 5) rfl (fun q hq => by cases hq; exact ⟨by show (0 : Int) ≤ _; omega, by show _ ≤ (10 : Int); omega⟩)
/-- a dead class goes through the stages as it is -/
def tx_dd_14 (C C' : pj_G) (c : Int32) : Prop := pj_Inv C' ∧ (pj_fi C' 2 4).toInt = (pj_fi C 2 4).toInt ∧ pj_fi C' 2 2 = pj_fi C 2 2
theorem tx_D5_14 {C : pj_G} (iC : pj_Inv C) (hb : ¬ (pj_fi C 2 4).toInt = -1) (c : Int32) (rc : 0 ≤ c.toInt ∧ c.toInt ≤ 9) : tx_dd_14 C (tx_B5_14 c C) c := by
  have k1 : (((Int8.ofInt 49).toInt32)).toInt = 49 := by decide
  have k2 : (((Int8.ofInt 57).toInt32)).toInt = 57 := by decide
  have k3 : (Int32.ofInt 1).toInt = 1 := by decide
  obtain ⟨i1, v1, e1, l1⟩ := tx_dead iC hb ((Int8.ofInt 49).toInt32) ((Int8.ofInt 57).toInt32) (by omega) (by omega)
  have s : ((Int32.ofInt 1) + (F_83x C ((Int8.ofInt 49).toInt32) ((Int8.ofInt 57).toInt32)).1).toInt = 1 := by rw [pj_addI (by omega) (by omega), k3, v1]; rfl
  have sc : (c + (Int32.ofInt 1)).toInt = c.toInt + 1 := by rw [pj_addI (by omega) (by omega), k3]
  refine ⟨tx_ic_14 (tx_iw_14 i1 _ _ (by omega)) _ (by omega), ?_, ?_⟩
  · show (pj_fi (pj_wv (pj_wa (F_83x C ((Int8.ofInt 49).toInt32) ((Int8.ofInt 57).toInt32)).2 18 c.toInt.toNat _) 14 1 (.int _)) 2 4).toInt = _
    rw [pj_fi_wv_ne _ _ _ _ _ _ (by decide), pj_fi_wa]
    exact e1
  · show pj_fi (pj_wv (pj_wa (F_83x C ((Int8.ofInt 49).toInt32) ((Int8.ofInt 57).toInt32)).2 18 c.toInt.toNat _) 14 1 (.int _)) 2 2 = _
    rw [pj_fi_wv_ne _ _ _ _ _ _ (by decide), pj_fi_wa]
    exact l1
theorem tx_D4_14 {C : pj_G} (iC : pj_Inv C) (hb : ¬ (pj_fi C 2 4).toInt = -1) (c : Int32) (rc : 0 ≤ c.toInt ∧ c.toInt ≤ 9) : tx_dd_14 C (tx_B4_14 c C) c := by
  have k1 : (((Int8.ofInt 58).toInt32)).toInt = 58 := by decide
  obtain ⟨i1, v1, e1, l1⟩ := tx_dead iC hb ((Int8.ofInt 58).toInt32) ((Int8.ofInt 58).toInt32) (by omega) (by omega)
  obtain ⟨i2, e2, l2⟩ := tx_D5_14 i1 (by rw [e1]; exact hb) c rc
  exact ⟨i2, e2.trans e1, l2.trans l1⟩
theorem tx_D3_14 {C : pj_G} (iC : pj_Inv C) (hb : ¬ (pj_fi C 2 4).toInt = -1) (c : Int32) (rc : 0 ≤ c.toInt ∧ c.toInt ≤ 9) : tx_dd_14 C (tx_B3_14 c C) c := by
  obtain ⟨i1, v1, e1, l1⟩ := tx_86d iC hb (Int32.ofInt 2) (by decide)
  have e1' : (pj_fi (pj_wa (F_86x C (Int32.ofInt 2)).2 17 c.toInt.toNat (F_86x C (Int32.ofInt 2)).1) 2 4).toInt = (pj_fi C 2 4).toInt := by rw [pj_fi_wa]; exact e1
  obtain ⟨i2, e2, l2⟩ := tx_D4_14 (tx_ip_14 i1 c.toInt.toNat (F_86x C (Int32.ofInt 2)).1) (by rw [e1']; exact hb) c rc
  have l0 : pj_fi (pj_wa (F_86x C (Int32.ofInt 2)).2 17 c.toInt.toNat (F_86x C (Int32.ofInt 2)).1) 2 2 = pj_fi C 2 2 := by rw [pj_fi_wa]; exact l1
  have l1' := l2.trans l0
  unfold tx_B3_14
  rw [pj_bd_p]
  exact ⟨i2, e2.trans e1', l1'⟩
theorem tx_D2_14 {C : pj_G} (iC : pj_Inv C) (hb : ¬ (pj_fi C 2 4).toInt = -1) (c u b : Int32) (rc : 0 ≤ c.toInt ∧ c.toInt ≤ 9) (ru : (-1 : Int) ≤ u.toInt ∧ u.toInt ≤ 7) (rb : (0 : Int) ≤ b.toInt ∧ b.toInt ≤ 8) : tx_dd_14 C (tx_B2_14 c u b C) c := by
  obtain ⟨i1, v1, e1, l1⟩ := tx_87d iC hb u b ru rb
  have e1' : (pj_fi (pj_wa (F_87x C u b).2 16 c.toInt.toNat (F_87x C u b).1) 2 4).toInt = (pj_fi C 2 4).toInt := by rw [pj_fi_wa]; exact e1
  obtain ⟨i2, e2, l2⟩ := tx_D3_14 (tx_ib_14 i1 c.toInt.toNat (F_87x C u b).1 (by omega)).2 (by rw [e1']; exact hb) c rc
  have l0 : pj_fi (pj_wa (F_87x C u b).2 16 c.toInt.toNat (F_87x C u b).1) 2 2 = pj_fi C 2 2 := by rw [pj_fi_wa]; exact l1
  have l1' := l2.trans l0
  unfold tx_B2_14
  rw [pj_bd_p]
  exact ⟨i2, e2.trans e1', l1'⟩
/-- what the stages leave of the rows of crossings -/
theorem tx_f5_14 {C : pj_G} (iC : pj_Inv C) (c : Int32) (j : Nat) : (pj_ai (tx_B5_14 c C) 15 j = pj_ai C 15 j ∧ pj_ai (tx_B5_14 c C) 16 j = pj_ai C 16 j ∧ pj_ai (tx_B5_14 c C) 17 j = pj_ai C 17 j) ∧ (j ≠ c.toInt.toNat → pj_ai (tx_B5_14 c C) 18 j = pj_ai C 18 j) := by
  obtain ⟨-, k, -⟩ := fr_83x C iC ((Int8.ofInt 49).toInt32) ((Int8.ofInt 57).toInt32) (by decide) (by decide)
  unfold tx_B5_14
  simp only [pj_nm_x, pj_bd_x]
  refine ⟨⟨?_, ?_, ?_⟩, fun h => ?_⟩
  · rw [pj_ai_wv, pj_ai_wa_ne _ _ _ _ _ _ (by decide), k.2.2 15 (by decide) j]
  · rw [pj_ai_wv, pj_ai_wa_ne _ _ _ _ _ _ (by decide), k.2.2 16 (by decide) j]
  · rw [pj_ai_wv, pj_ai_wa_ne _ _ _ _ _ _ (by decide), k.2.2 17 (by decide) j]
  · rw [pj_ai_wv, pj_ai_wa_nj _ _ _ _ _ h, k.2.2 18 (by decide) j]
theorem tx_f4_14 {C : pj_G} (iC : pj_Inv C) (c : Int32) (j : Nat) : (pj_ai (tx_B4_14 c C) 15 j = pj_ai C 15 j ∧ pj_ai (tx_B4_14 c C) 16 j = pj_ai C 16 j ∧ pj_ai (tx_B4_14 c C) 17 j = pj_ai C 17 j) ∧ (j ≠ c.toInt.toNat → pj_ai (tx_B4_14 c C) 18 j = pj_ai C 18 j) := by
  obtain ⟨i, k, -⟩ := fr_83x C iC ((Int8.ofInt 58).toInt32) ((Int8.ofInt 58).toInt32) (by decide) (by decide)
  obtain ⟨⟨a, b, d⟩, e⟩ := tx_f5_14 i c j
  unfold tx_B4_14
  exact ⟨⟨a.trans (k.2.2 15 (by decide) j), b.trans (k.2.2 16 (by decide) j), d.trans (k.2.2 17 (by decide) j)⟩, fun h => (e h).trans (k.2.2 18 (by decide) j)⟩
theorem tx_f3_14 {C : pj_G} (iC : pj_Inv C) (c : Int32) (j : Nat) : (pj_ai (tx_B3_14 c C) 15 j = pj_ai C 15 j ∧ pj_ai (tx_B3_14 c C) 16 j = pj_ai C 16 j) ∧ (j ≠ c.toInt.toNat → pj_ai (tx_B3_14 c C) 17 j = pj_ai C 17 j ∧ pj_ai (tx_B3_14 c C) 18 j = pj_ai C 18 j) := by
  obtain ⟨i, k, -⟩ := fr_86x C iC (Int32.ofInt 2) (by decide)
  have i3 := tx_ip_14 i c.toInt.toNat (F_86x C (Int32.ofInt 2)).1
  have q := tx_f4_14 i3 c j
  unfold tx_B3_14
  simp only [pj_bd_x]
  refine ⟨⟨?_, ?_⟩, fun h => ⟨?_, ?_⟩⟩
  · rw [q.1.1, pj_ai_wa_ne _ _ _ _ _ _ (by decide), k.2.2 15 (by decide) j]
  · rw [q.1.2.1, pj_ai_wa_ne _ _ _ _ _ _ (by decide), k.2.2 16 (by decide) j]
  · rw [q.1.2.2, pj_ai_wa_nj _ _ _ _ _ h, k.2.2 17 (by decide) j]
  · rw [q.2 h, pj_ai_wa_ne _ _ _ _ _ _ (by decide), k.2.2 18 (by decide) j]
theorem tx_f2_14 {C : pj_G} (iC : pj_Inv C) (c u b : Int32) (ru : (-1 : Int) ≤ u.toInt ∧ u.toInt ≤ 7) (rb : (0 : Int) ≤ b.toInt ∧ b.toInt ≤ 8) (j : Nat) : pj_ai (tx_B2_14 c u b C) 15 j = pj_ai C 15 j ∧ (j ≠ c.toInt.toNat → pj_ai (tx_B2_14 c u b C) 16 j = pj_ai C 16 j ∧ pj_ai (tx_B2_14 c u b C) 17 j = pj_ai C 17 j ∧ pj_ai (tx_B2_14 c u b C) 18 j = pj_ai C 18 j) := by
  obtain ⟨i, k, r, -⟩ := fr_87x C iC u b ru rb
  have i2 := (tx_ib_14 i c.toInt.toNat (F_87x C u b).1 (by omega)).2
  have q := tx_f3_14 i2 c j
  unfold tx_B2_14
  simp only [pj_bd_x]
  refine ⟨?_, fun h => ⟨?_, ?_, ?_⟩⟩
  · rw [q.1.1, pj_ai_wa_ne _ _ _ _ _ _ (by decide), k.2.2 15 (by decide) j]
  · rw [q.1.2, pj_ai_wa_nj _ _ _ _ _ h, k.2.2 16 (by decide) j]
  · rw [(q.2 h).1, pj_ai_wa_ne _ _ _ _ _ _ (by decide), k.2.2 17 (by decide) j]
  · rw [(q.2 h).2, pj_ai_wa_ne _ _ _ _ _ _ (by decide), k.2.2 18 (by decide) j]
theorem tx_f1_14 {C : pj_G} (iC : pj_Inv C) (c : Int32) (j : Nat) (h : j ≠ c.toInt.toNat) : pj_ai (tx_B1_14 c C) 15 j = pj_ai C 15 j ∧ pj_ai (tx_B1_14 c C) 16 j = pj_ai C 16 j ∧ pj_ai (tx_B1_14 c C) 17 j = pj_ai C 17 j ∧ pj_ai (tx_B1_14 c C) 18 j = pj_ai C 18 j := by
  have rb : (0 : Int) ≤ (pj_fi C 14 0).toInt ∧ (pj_fi C 14 0).toInt ≤ 8 := iC.2.1 14 0 (0, 8) rfl
  obtain ⟨i, k, r, -⟩ := fr_87x C iC (Int32.ofInt (-1)) (pj_fi C 14 0) (by decide) rb
  have i1 := (tx_ib_14 i c.toInt.toNat (F_87x C (Int32.ofInt (-1)) (pj_fi C 14 0)).1 (by omega)).1
  have e0 : pj_fi (pj_wa (F_87x C (Int32.ofInt (-1)) (pj_fi C 14 0)).2 15 c.toInt.toNat (F_87x C (Int32.ofInt (-1)) (pj_fi C 14 0)).1) 14 0 = pj_fi C 14 0 := by rw [pj_fi_wa, k.1 (14, 0) (by decide)]
  have e1 : pj_ai (pj_wa (F_87x C (Int32.ofInt (-1)) (pj_fi C 14 0)).2 15 c.toInt.toNat (F_87x C (Int32.ofInt (-1)) (pj_fi C 14 0)).1) 15 c.toInt.toNat = (F_87x C (Int32.ofInt (-1)) (pj_fi C 14 0)).1 := pj_ai_wa_eq i.1 rfl
  unfold tx_B1_14
  simp only [pj_nm_x, pj_bd_x]
  rw [e0, e1]
  have q := tx_f2_14 i1 c (F_87x C (Int32.ofInt (-1)) (pj_fi C 14 0)).1 (pj_fi C 14 0) (by omega) rb j
  refine ⟨?_, ?_, ?_, ?_⟩
  · rw [q.1, pj_ai_wa_nj _ _ _ _ _ h, k.2.2 15 (by decide) j]
  · rw [(q.2 h).1, pj_ai_wa_ne _ _ _ _ _ _ (by decide), k.2.2 16 (by decide) j]
  · rw [(q.2 h).2.1, pj_ai_wa_ne _ _ _ _ _ _ (by decide), k.2.2 17 (by decide) j]
  · rw [(q.2 h).2.2, pj_ai_wa_ne _ _ _ _ _ _ (by decide), k.2.2 18 (by decide) j]
/-- the stages in step -/
theorem tx_c4_14 {C R : pj_G} (h : tx_RD C R) (c z4 : Int32) (rc : 0 ≤ c.toInt ∧ c.toInt ≤ 9) (hr : (pj_fi R 171 22).toInt ≤ 9) : ((tx_s4 z4 R).1.toInt = 1 ∧ tx_RD (tx_B5_14 c C) (tx_s4 z4 R).2 ∧ (pj_fi (tx_s4 z4 R).2 171 22).toInt = (pj_fi R 171 22).toInt + 1 ∧ pj_fi (tx_s4 z4 R).2 171 21 = pj_fi R 171 21 ∧ pj_ai (tx_B5_14 c C) 18 c.toInt.toNat = pj_ai (tx_s4 z4 R).2 181 (z4 + Int32.ofInt 3).toInt.toNat) ∨ ((tx_s4 z4 R).1.toInt = 0 ∧ tx_ER (tx_B5_14 c C) (tx_s4 z4 R).2) := by
  have k3 : (Int32.ofInt 1).toInt = 1 := by decide
  have k0 : (Int32.ofInt 0).toInt = 0 := by decide
  have sc : (c + (Int32.ofInt 1)).toInt = c.toInt + 1 := by rw [pj_addI (by omega) (by omega), k3]
  obtain ⟨iR, kR, rR, -, -⟩ := fr_186_s9x R h.2.1
  have t := tx_dig h
  have a22 : pj_fi (F_186_s9x R).2 171 22 = pj_fi R 171 22 := kR.1 (171, 22) (by decide)
  have a21 : pj_fi (F_186_s9x R).2 171 21 = pj_fi R 171 21 := kR.1 (171, 21) (by decide)
  have r22 := tx_r22 h.2.1
  unfold tx_s4 tx_B5_14
  simp only [pj_nm_x, pj_bd_x]
  generalize hq : (F_186_s9x R).2 = R1 at *
  generalize hy : (F_186_s9x R).1 = y at *
  generalize hp : (F_83x C ((Int8.ofInt 49).toInt32) ((Int8.ofInt 57).toInt32)).2 = C1 at *
  generalize hx : (F_83x C ((Int8.ofInt 49).toInt32) ((Int8.ofInt 57).toInt32)).1 = x at *
  have a22' : (pj_fi R1 171 22).toInt = (pj_fi R 171 22).toInt := by rw [a22]
  have sy : (Int32.ofInt 1 + y).toInt = 1 + y.toInt := by rw [pj_addI (by omega) (by omega), k3]
  have s22 : (pj_fi R1 171 22 + Int32.ofInt 1).toInt = (pj_fi R 171 22).toInt + 1 := by rw [pj_addI (by omega) (by omega), k3, a22']
  have i1 := tx_i181 iR (z4 + Int32.ofInt 3).toInt.toNat (Int32.ofInt 1 + y) (by omega)
  have i2 := tx_i22 i1 (pj_fi R1 171 22 + Int32.ofInt 1) (by omega)
  have ea : pj_ai (pj_wv (pj_wa R1 181 (z4 + Int32.ofInt 3).toInt.toNat (Int32.ofInt 1 + y)) 171 22 (.int (pj_fi R1 171 22 + Int32.ofInt 1))) 181 (z4 + Int32.ofInt 3).toInt.toNat = Int32.ofInt 1 + y := by rw [pj_ai_wv, pj_ai_wa_eq iR.1 rfl]
  have e22 : pj_fi (pj_wv (pj_wa R1 181 (z4 + Int32.ofInt 3).toInt.toNat (Int32.ofInt 1 + y)) 171 22 (.int (pj_fi R1 171 22 + Int32.ofInt 1))) 171 22 = pj_fi R1 171 22 + Int32.ofInt 1 := pj_fi_wi i1.1 (ci := 12) rfl _
  have e21 : pj_fi (pj_wv (pj_wa R1 181 (z4 + Int32.ofInt 3).toInt.toNat (Int32.ofInt 1 + y)) 171 22 (.int (pj_fi R1 171 22 + Int32.ofInt 1))) 171 21 = pj_fi R 171 21 := by rw [pj_fi_wv_ne _ _ _ _ _ _ (by decide), pj_fi_wa, a21]
  rw [ea]
  rcases t with ⟨t1, t2, t3⟩ | ⟨t1, t3⟩
  · have sx : (Int32.ofInt 1 + x).toInt = 1 + x.toInt := by rw [pj_addI (by omega) (by omega), k3]
    have j1 := tx_iw_14 t3.1 c.toInt.toNat (Int32.ofInt 1 + x) (by omega)
    have j2 := tx_ic_14 j1 (c + Int32.ofInt 1) (by omega)
    rw [pj_b0_leF (show 0 < (Int32.ofInt 1 + y).toInt by omega), pj_cF]
    exact .inl ⟨k3, tx_wvC (tx_waC (tx_wvR (tx_waR t3 i1 (by decide)) i2 (by decide) (by decide)) j1 (by decide)) j2 (by decide), by show (pj_fi _ 171 22).toInt = _; rw [e22]; exact s22, e21, by dsimp only; rw [ea, pj_ai_wv, pj_ai_wa_eq t3.1.1 rfl, Int32.toInt_inj.mp t1]⟩
  · have hx0 : x.toInt = 0 ∨ 0 ≤ x.toInt ∧ x.toInt ≤ 8 := by
      have w := fr_83x C h.1 ((Int8.ofInt 49).toInt32) ((Int8.ofInt 57).toInt32) (by decide) (by decide)
      rw [hx] at w
      have w1 := w.2.2.1
      have w2 := w.2.2.2.1.1
      have k5 : (((Int8.ofInt 49).toInt32)).toInt = 49 := by decide
      have k6 : (((Int8.ofInt 57).toInt32)).toInt = 57 := by decide
      omega
    have sx : (Int32.ofInt 1 + x).toInt = 1 + x.toInt := by rw [pj_addI (by omega) (by omega), k3]
    have j1 := tx_iw_14 t3.1 c.toInt.toNat (Int32.ofInt 1 + x) (by omega)
    have j2 := tx_ic_14 j1 (c + Int32.ofInt 1) (by omega)
    rw [pj_b0_leT (show (Int32.ofInt 1 + y).toInt ≤ 0 by omega), pj_cT]
    exact .inr ⟨k0, tx_ewvC (tx_ewaC (tx_ewvR (tx_ewaR t3 i1) i2 (by decide) (by decide)) j1) j2 (by decide)⟩
theorem tx_c3_14 {C R : pj_G} (h : tx_RD C R) (c z4 : Int32) (rc : 0 ≤ c.toInt ∧ c.toInt ≤ 9) (hr : (pj_fi R 171 22).toInt ≤ 9) : ((tx_s3 z4 R).1.toInt = 1 ∧ tx_RD (tx_B4_14 c C) (tx_s3 z4 R).2 ∧ (pj_fi (tx_s3 z4 R).2 171 22).toInt = (pj_fi R 171 22).toInt + 1 ∧ pj_fi (tx_s3 z4 R).2 171 21 = pj_fi R 171 21 ∧ pj_ai (tx_B4_14 c C) 18 c.toInt.toNat = pj_ai (tx_s3 z4 R).2 181 (z4 + Int32.ofInt 3).toInt.toNat) ∨ ((tx_s3 z4 R).1.toInt = 0 ∧ tx_ER (tx_B4_14 c C) (tx_s3 z4 R).2) := by
  have k1 : (((Int8.ofInt 58).toInt32)).toInt = 58 := by decide
  have k0 : (Int32.ofInt 0).toInt = 0 := by decide
  obtain ⟨iR, kR, -, -, -⟩ := fr_183x R h.2.1 ((Int8.ofInt 58).toInt32) (by omega)
  have a22 : pj_fi (F_183x R ((Int8.ofInt 58).toInt32)).2 171 22 = pj_fi R 171 22 := kR.1 (171, 22) (by decide)
  have a21 : pj_fi (F_183x R ((Int8.ofInt 58).toInt32)).2 171 21 = pj_fi R 171 21 := kR.1 (171, 21) (by decide)
  have t := tx_col h ((Int8.ofInt 58).toInt32) (by omega)
  unfold tx_s3 tx_B4_14
  simp only [pj_bd_x]
  rcases t with ⟨t1, t3⟩ | ⟨t1, t3⟩
  · rw [pj_b0_neT (show ¬ (F_183x R ((Int8.ofInt 58).toInt32)).1.toInt = 0 by omega), pj_cT]
    have w := tx_c4_14 t3 c z4 rc (by rw [a22]; exact hr)
    rw [a22, a21] at w
    exact w
  · rw [pj_b0_neF t1, pj_cF]
    obtain ⟨i2, e2⟩ := tx_D5_14 t3.1 (tx_enb t3) c rc
    exact .inr ⟨k0, tx_eC t3 i2 e2⟩
theorem tx_c2_14 {C R : pj_G} (h : tx_RD C R) (c z4 : Int32) (rz : 0 ≤ z4.toInt ∧ z4.toInt ≤ 36) (rc : 0 ≤ c.toInt ∧ c.toInt ≤ 9) (hr : (pj_fi R 171 22).toInt ≤ 9) : ((tx_s2 z4 R).1.toInt = 1 ∧ tx_RD (tx_B3_14 c C) (tx_s2 z4 R).2 ∧ (pj_fi (tx_s2 z4 R).2 171 22).toInt = (pj_fi R 171 22).toInt + 1 ∧ pj_fi (tx_s2 z4 R).2 171 21 = pj_fi R 171 21 ∧ pj_ai (tx_B3_14 c C) 17 c.toInt.toNat = pj_ai (tx_s2 z4 R).2 181 (z4 + Int32.ofInt 2).toInt.toNat ∧ pj_ai (tx_B3_14 c C) 18 c.toInt.toNat = pj_ai (tx_s2 z4 R).2 181 (z4 + Int32.ofInt 3).toInt.toNat) ∨ ((tx_s2 z4 R).1.toInt = 0 ∧ tx_ER (tx_B3_14 c C) (tx_s2 z4 R).2) := by
  have k0 : (Int32.ofInt 0).toInt = 0 := by decide
  have k2 : (Int32.ofInt 2).toInt = 2 := by decide
  obtain ⟨iR, kR, rR, xR⟩ := fr_187ex R h.2.1 (Int32.ofInt 2) (by omega)
  have a22 : pj_fi (F_187ex R (Int32.ofInt 2)).2 171 22 = pj_fi R 171 22 := kR.1 (171, 22) (by decide)
  have a21 : pj_fi (F_187ex R (Int32.ofInt 2)).2 171 21 = pj_fi R 171 21 := kR.1 (171, 21) (by decide)
  have b99 := xR.2.1 k2
  have t := tx_num h (Int32.ofInt 2) (by omega)
  unfold tx_s2 tx_B3_14
  simp only [pj_nm_x, pj_bd_x]
  generalize hq : (F_187ex R (Int32.ofInt 2)).2 = R1 at *
  generalize hy : (F_187ex R (Int32.ofInt 2)).1 = y at *
  generalize hp : (F_86x C (Int32.ofInt 2)).2 = C1 at *
  generalize hx : (F_86x C (Int32.ofInt 2)).1 = x at *
  have i1 := tx_i181 iR (z4 + Int32.ofInt 2).toInt.toNat y (by omega)
  have ea : pj_ai (pj_wa R1 181 (z4 + Int32.ofInt 2).toInt.toNat y) 181 (z4 + Int32.ofInt 2).toInt.toNat = y := pj_ai_wa_eq iR.1 rfl
  have f22 : pj_fi (pj_wa R1 181 (z4 + Int32.ofInt 2).toInt.toNat y) 171 22 = pj_fi R 171 22 := by rw [pj_fi_wa, a22]
  have f21 : pj_fi (pj_wa R1 181 (z4 + Int32.ofInt 2).toInt.toNat y) 171 21 = pj_fi R 171 21 := by rw [pj_fi_wa, a21]
  rw [ea]
  rcases t with ⟨t1, t2, t3⟩ | ⟨t1, t3⟩
  · rw [pj_b0_ltF t2, pj_cF]
    have w := tx_c3_14 (tx_waC (tx_waR t3 i1 (by decide)) (tx_ip_14 t3.1 c.toInt.toNat x) (by decide)) c z4 rc (by rw [f22]; exact hr)
    rw [f22, f21] at w
    rcases w with ⟨w1, w2, w3, w4, w5⟩ | w
    · have k3 : (Int32.ofInt 3).toInt = 3 := by decide
      have sz2 : (z4 + Int32.ofInt 2).toInt = z4.toInt + 2 := by rw [pj_addI (by omega) (by omega), k2]
      have sz3 : (z4 + Int32.ofInt 3).toInt = z4.toInt + 3 := by rw [pj_addI (by omega) (by omega), k3]
      have d1 := ((tx_f4_14 (tx_ip_14 t3.1 c.toInt.toNat x) c c.toInt.toNat).1.2.2).trans (pj_ai_wa_eq t3.1.1 rfl)
      have d2 := (tx_g3 i1 z4 (z4 + Int32.ofInt 2).toInt.toNat (by omega)).trans ea
      exact .inl ⟨w1, w2, w3, w4, d1.trans (t1.trans d2.symm), w5⟩
    · exact .inr w
  · rw [pj_b0_ltT (show y.toInt < 0 by omega), pj_cT]
    have t4 := tx_ewaC (tx_ewaR t3 i1) (tx_ip_14 t3.1 c.toInt.toNat x)
    obtain ⟨i2, e2⟩ := tx_D4_14 t4.1 (tx_enb t4) c rc
    exact .inr ⟨k0, tx_eC t4 i2 e2⟩
theorem tx_t1_14 {C R : pj_G} (z4 yp c y : Int32) (rz : 0 ≤ z4.toInt ∧ z4.toInt ≤ 36) (rp : -1 ≤ yp.toInt ∧ yp.toInt ≤ 7) (ry : 0 ≤ y.toInt ∧ y.toInt ≤ 7) (rc : 0 ≤ c.toInt ∧ c.toInt ≤ 9) (hr : (pj_fi R 171 22).toInt ≤ 9) (st : (y.toInt = yp.toInt ∧ 0 ≤ yp.toInt ∧ tx_RD C R) ∨ (yp.toInt = -1 ∧ tx_ER C R)) : ((tx_s1 z4 yp R).1.toInt = 1 ∧ tx_RD (tx_B3_14 c (pj_wa C 16 c.toInt.toNat y)) (tx_s1 z4 yp R).2 ∧ (pj_fi (tx_s1 z4 yp R).2 171 22).toInt = (pj_fi R 171 22).toInt + 1 ∧ pj_fi (tx_s1 z4 yp R).2 171 21 = pj_fi R 171 21 ∧ pj_ai (tx_s1 z4 yp R).2 181 z4.toInt.toNat = pj_fi R 171 23 ∧ pj_ai (tx_B3_14 c (pj_wa C 16 c.toInt.toNat y)) 16 c.toInt.toNat = pj_ai (tx_s1 z4 yp R).2 181 (z4 + Int32.ofInt 1).toInt.toNat ∧ pj_ai (tx_B3_14 c (pj_wa C 16 c.toInt.toNat y)) 17 c.toInt.toNat = pj_ai (tx_s1 z4 yp R).2 181 (z4 + Int32.ofInt 2).toInt.toNat ∧ pj_ai (tx_B3_14 c (pj_wa C 16 c.toInt.toNat y)) 18 c.toInt.toNat = pj_ai (tx_s1 z4 yp R).2 181 (z4 + Int32.ofInt 3).toInt.toNat ∧ 0 ≤ yp.toInt) ∨ ((tx_s1 z4 yp R).1.toInt = 0 ∧ tx_ER (tx_B3_14 c (pj_wa C 16 c.toInt.toNat y)) (tx_s1 z4 yp R).2) := by
  have k0 : (Int32.ofInt 0).toInt = 0 := by decide
  have k1 : (Int32.ofInt 1).toInt = 1 := by decide
  have iR : pj_Inv R := by
    rcases st with ⟨_, _, s⟩ | ⟨_, s⟩
    · exact s.2.1
    · exact s.2.1
  have r23 : (-1 : Int) ≤ (pj_fi R 171 23).toInt ∧ (pj_fi R 171 23).toInt ≤ 7 := iR.2.1 171 23 (-1, 7) rfl
  have sz5 : (z4 + Int32.ofInt 1).toInt = z4.toInt + 1 := by rw [pj_addI (by omega) (by omega), k1]
  have i1 := tx_i181 iR (z4 + Int32.ofInt 1).toInt.toNat yp (by omega)
  have i2 := tx_i181 i1 z4.toInt.toNat (pj_fi R 171 23) (by omega)
  have ea : pj_ai (pj_wa (pj_wa R 181 (z4 + Int32.ofInt 1).toInt.toNat yp) 181 z4.toInt.toNat (pj_fi R 171 23)) 181 (z4 + Int32.ofInt 1).toInt.toNat = yp := by rw [pj_ai_wa_nj _ _ _ _ _ (by omega), pj_ai_wa_eq iR.1 rfl]
  have f22 : pj_fi (pj_wa (pj_wa R 181 (z4 + Int32.ofInt 1).toInt.toNat yp) 181 z4.toInt.toNat (pj_fi R 171 23)) 171 22 = pj_fi R 171 22 := by rw [pj_fi_wa, pj_fi_wa]
  have f21 : pj_fi (pj_wa (pj_wa R 181 (z4 + Int32.ofInt 1).toInt.toNat yp) 181 z4.toInt.toNat (pj_fi R 171 23)) 171 21 = pj_fi R 171 21 := by rw [pj_fi_wa, pj_fi_wa]
  have e : tx_s1 z4 yp R = cond (pj_c1 .ge yp 0) (tx_s2 z4 (pj_wa (pj_wa R 181 (z4 + Int32.ofInt 1).toInt.toNat yp) 181 z4.toInt.toNat (pj_fi R 171 23))) (Int32.ofInt 0, pj_wa (pj_wa R 181 (z4 + Int32.ofInt 1).toInt.toNat yp) 181 z4.toInt.toNat (pj_fi R 171 23)) := by
    unfold tx_s1
    simp only [pj_nm_x]
    rw [ea]
  rw [e]
  rcases st with ⟨sy, s0, s⟩ | ⟨s0, s⟩
  · rw [pj_b0_geT s0, pj_cT]
    have w := tx_c2_14 (tx_waC (tx_waR (tx_waR s i1 (by decide)) i2 (by decide)) (tx_ib_14 s.1 c.toInt.toNat y ry).2 (by decide)) c z4 rz rc (by rw [f22]; exact hr)
    rw [f22, f21] at w
    rcases w with ⟨w1, w2, w3, w4, w5, w6⟩ | w
    · have k2 : (Int32.ofInt 2).toInt = 2 := by decide
      have k3 : (Int32.ofInt 3).toInt = 3 := by decide
      have sz2 : (z4 + Int32.ofInt 2).toInt = z4.toInt + 2 := by rw [pj_addI (by omega) (by omega), k2]
      have sz3 : (z4 + Int32.ofInt 3).toInt = z4.toInt + 3 := by rw [pj_addI (by omega) (by omega), k3]
      have d1 := ((tx_f3_14 (tx_ib_14 s.1 c.toInt.toNat y ry).2 c c.toInt.toNat).1.2).trans (pj_ai_wa_eq s.1.1 rfl)
      have d2 := (tx_g2 i2 z4 (z4 + Int32.ofInt 1).toInt.toNat (by omega) (by omega)).trans ea
      have d3 := (tx_g2 i2 z4 z4.toInt.toNat (by omega) (by omega)).trans (pj_ai_wa_eq i1.1 rfl)
      exact .inl ⟨w1, w2, w3, w4, d3, d1.trans ((Int32.toInt_inj.mp sy).trans d2.symm), w5, w6, s0⟩
    · exact .inr w
  · rw [pj_b0_geF (show yp.toInt < 0 by omega), pj_cF]
    have t4 := tx_ewaC (tx_ewaR (tx_ewaR s i1) i2) (tx_ib_14 s.1 c.toInt.toNat y ry).2
    obtain ⟨i5, e5⟩ := tx_D3_14 t4.1 (tx_enb t4) c rc
    exact .inr ⟨k0, tx_eC t4 i5 e5⟩
theorem tx_c1b_14 {C1 R1 : pj_G} {b x y z4 c : Int32} (rz : 0 ≤ z4.toInt ∧ z4.toInt ≤ 36) (rc : 0 ≤ c.toInt ∧ c.toInt ≤ 9) (rb : (0 : Int) ≤ b.toInt ∧ b.toInt ≤ 8) (rx : 0 ≤ x.toInt ∧ x.toInt ≤ 7) (ry : -1 ≤ y.toInt ∧ y.toInt ≤ 7) (hr : (pj_fi R1 171 22).toInt ≤ 9) (l : (x.toInt = y.toInt ∧ 0 ≤ y.toInt ∧ tx_RD C1 R1) ∨ (y.toInt = -1 ∧ tx_ER C1 R1)) (p : Int32 × pj_G) (hp : p = cond (pj_c1 .lt y 0) (Int32.ofInt (-1), pj_wv R1 171 23 (.int y)) (tx_S (pj_wv R1 171 23 (.int y)) (pj_fi R1 171 17) y b)) : ((tx_s1 z4 p.1 p.2).1.toInt = 1 ∧ tx_RD (tx_B2_14 c (pj_ai (pj_wa C1 15 c.toInt.toNat x) 15 c.toInt.toNat) b (pj_wa C1 15 c.toInt.toNat x)) (tx_s1 z4 p.1 p.2).2 ∧ (pj_fi (tx_s1 z4 p.1 p.2).2 171 22).toInt = (pj_fi R1 171 22).toInt + 1 ∧ pj_fi (tx_s1 z4 p.1 p.2).2 171 21 = pj_fi R1 171 21 ∧ pj_ai (tx_B2_14 c (pj_ai (pj_wa C1 15 c.toInt.toNat x) 15 c.toInt.toNat) b (pj_wa C1 15 c.toInt.toNat x)) 15 c.toInt.toNat = pj_ai (tx_s1 z4 p.1 p.2).2 181 z4.toInt.toNat ∧ pj_ai (tx_B2_14 c (pj_ai (pj_wa C1 15 c.toInt.toNat x) 15 c.toInt.toNat) b (pj_wa C1 15 c.toInt.toNat x)) 16 c.toInt.toNat = pj_ai (tx_s1 z4 p.1 p.2).2 181 (z4 + Int32.ofInt 1).toInt.toNat ∧ pj_ai (tx_B2_14 c (pj_ai (pj_wa C1 15 c.toInt.toNat x) 15 c.toInt.toNat) b (pj_wa C1 15 c.toInt.toNat x)) 17 c.toInt.toNat = pj_ai (tx_s1 z4 p.1 p.2).2 181 (z4 + Int32.ofInt 2).toInt.toNat ∧ pj_ai (tx_B2_14 c (pj_ai (pj_wa C1 15 c.toInt.toNat x) 15 c.toInt.toNat) b (pj_wa C1 15 c.toInt.toNat x)) 18 c.toInt.toNat = pj_ai (tx_s1 z4 p.1 p.2).2 181 (z4 + Int32.ofInt 3).toInt.toNat) ∨ ((tx_s1 z4 p.1 p.2).1.toInt = 0 ∧ tx_ER (tx_B2_14 c (pj_ai (pj_wa C1 15 c.toInt.toNat x) 15 c.toInt.toNat) b (pj_wa C1 15 c.toInt.toNat x)) (tx_s1 z4 p.1 p.2).2) := by
  have cm : (Int32.ofInt (-1)).toInt = -1 := by decide
  have i0 : pj_Inv C1 ∧ pj_Inv R1 := by
    rcases l with ⟨_, _, s⟩ | ⟨_, s⟩
    · exact ⟨s.1, s.2.1⟩
    · exact ⟨s.1, s.2.1⟩
  have i23 := tx_i23 i0.2 y (by omega)
  have j1 := (tx_ib_14 i0.1 c.toInt.toNat x rx).1
  have w22 : pj_fi (pj_wv R1 171 23 (.int y)) 171 22 = pj_fi R1 171 22 := pj_fi_wv_ne _ _ _ _ _ _ (by decide)
  have w21 : pj_fi (pj_wv R1 171 23 (.int y)) 171 21 = pj_fi R1 171 21 := pj_fi_wv_ne _ _ _ _ _ _ (by decide)
  have w17 : pj_fi (pj_wv R1 171 23 (.int y)) 171 17 = pj_fi R1 171 17 := pj_fi_wv_ne _ _ _ _ _ _ (by decide)
  have ex : pj_ai (pj_wa C1 15 c.toInt.toNat x) 15 c.toInt.toNat = x := pj_ai_wa_eq i0.1.1 rfl
  rw [ex]
  unfold tx_B2_14
  rw [pj_bd_p]
  have rv := (fr_87x (pj_wa C1 15 c.toInt.toNat x) j1 x b (by omega) rb).2.2.1
  rcases l with ⟨l1, l2, l3⟩ | ⟨l1, l3⟩
  · rw [pj_b0_ltF l2, pj_cF, ← w17] at hp
    have exy : x = y := Int32.toInt_inj.mp l1
    subst exy
    have t := tx_87b (tx_waC (tx_wvR l3 i23 (by decide) (by decide)) j1 (by decide)) x b rx rb
    obtain ⟨s22, s21, sr, s23⟩ := tx_sf i23 x b rb
    rw [← hp] at t s22 s21 sr s23
    have w := tx_t1_14 (C := (F_87x (pj_wa C1 15 c.toInt.toNat x) x b).2) (R := p.2) z4 p.1 c (F_87x (pj_wa C1 15 c.toInt.toNat x) x b).1 rz sr rv rc (by rw [s22, w22]; exact hr) (by
      rcases t with ⟨t1, t2, t3⟩ | t
      · exact .inl ⟨t1, t2, t3⟩
      · exact .inr t)
    rw [s22, s21, w22, w21] at w
    rcases w with ⟨w1, w2, w3, w4, w5, w6⟩ | w
    · obtain ⟨iF, kF, -⟩ := fr_87x (pj_wa C1 15 c.toInt.toNat x) j1 x b (by omega) rb
      have v23 : pj_fi (pj_wv R1 171 23 (.int x)) 171 23 = x := pj_fi_wi i0.2.1 (ci := 12) rfl _
      have iF2 := (tx_ib_14 iF c.toInt.toNat (F_87x (pj_wa C1 15 c.toInt.toNat x) x b).1 rv).2
      have d1 := (((tx_f3_14 iF2 c c.toInt.toNat).1.1).trans (pj_ai_wa_ne _ _ _ _ _ _ (by decide))).trans ((kF.2.2 15 (by decide) c.toInt.toNat).trans (pj_ai_wa_eq i0.1.1 rfl))
      exact .inl ⟨w1, w2, w3, w4, d1.trans ((w5.trans (s23.trans v23)).symm), w6.1, w6.2.1, w6.2.2.1⟩
    · exact .inr w
  · rw [pj_b0_ltT (show y.toInt < 0 by omega), pj_cT] at hp
    have t4 := tx_ewaC (tx_ewvR l3 i23 (by decide) (by decide)) j1
    obtain ⟨d1, d2, d3⟩ := tx_87d j1 (tx_enb t4) x b (by omega) rb
    subst hp
    have w := tx_t1_14 (C := (F_87x (pj_wa C1 15 c.toInt.toNat x) x b).2) (R := pj_wv R1 171 23 (.int y)) z4 (Int32.ofInt (-1)) c (F_87x (pj_wa C1 15 c.toInt.toNat x) x b).1 rz (by omega) rv rc (by rw [w22]; exact hr) (.inr ⟨cm, tx_eC t4 d1 d3⟩)
    rw [w22, w21] at w
    rcases w with ⟨-, -, -, -, -, -, -, -, w9⟩ | w
    · exfalso
      omega
    · exact .inr w
/-- a whole crossing in step -/
theorem tx_c1_14 {C R : pj_G} (h : tx_RD C R) (c : Int32) (rc : 0 ≤ c.toInt ∧ c.toInt ≤ 9) (hr : (pj_fi R 171 22).toInt ≤ 9) (hb : pj_fi C 14 0 = pj_fi R 171 21) : ((F_191x R).1.toInt = 1 ∧ tx_RD (tx_B1_14 c C) (F_191x R).2 ∧ (pj_fi (F_191x R).2 171 22).toInt = (pj_fi R 171 22).toInt + 1 ∧ pj_fi (F_191x R).2 171 21 = pj_fi R 171 21 ∧ pj_ai (tx_B1_14 c C) 15 c.toInt.toNat = pj_ai (F_191x R).2 181 ((Int32.ofInt 4) * pj_fi R 171 22).toInt.toNat ∧ pj_ai (tx_B1_14 c C) 16 c.toInt.toNat = pj_ai (F_191x R).2 181 ((Int32.ofInt 4) * pj_fi R 171 22 + Int32.ofInt 1).toInt.toNat ∧ pj_ai (tx_B1_14 c C) 17 c.toInt.toNat = pj_ai (F_191x R).2 181 ((Int32.ofInt 4) * pj_fi R 171 22 + Int32.ofInt 2).toInt.toNat ∧ pj_ai (tx_B1_14 c C) 18 c.toInt.toNat = pj_ai (F_191x R).2 181 ((Int32.ofInt 4) * pj_fi R 171 22 + Int32.ofInt 3).toInt.toNat) ∨ ((F_191x R).1.toInt = 0 ∧ tx_ER (tx_B1_14 c C) (F_191x R).2) := by
  have k4 : (Int32.ofInt 4).toInt = 4 := by decide
  have cm : (Int32.ofInt (-1)).toInt = -1 := by decide
  have rb := tx_r21 h.2.1
  have r22 := tx_r22 h.2.1
  have sz4 : ((Int32.ofInt 4) * pj_fi R 171 22).toInt = 4 * (pj_fi R 171 22).toInt := pj_mulL k4 (by omega) (by omega)
  have l := tx_let h (pj_fi R 171 21) (((Int8.ofInt 97).toInt32) + pj_fi R 171 21 - Int32.ofInt 1) rb (tx_hi _ rb)
  rw [← tx_87a] at l
  obtain ⟨iL, kL, rL, -, -⟩ := fr_188x R h.2.1 (pj_fi R 171 21) rb
  have a22 : pj_fi (F_188x R (pj_fi R 171 21)).2 171 22 = pj_fi R 171 22 := kL.1 (171, 22) (by decide)
  have a21 : pj_fi (F_188x R (pj_fi R 171 21)).2 171 21 = pj_fi R 171 21 := kL.1 (171, 21) (by decide)
  obtain ⟨iF, kF, rF, -⟩ := fr_87x C h.1 (Int32.ofInt (-1)) (pj_fi R 171 21) (by omega) rb
  have cb : pj_fi (pj_wa (F_87x C (Int32.ofInt (-1)) (pj_fi R 171 21)).2 15 c.toInt.toNat (F_87x C (Int32.ofInt (-1)) (pj_fi R 171 21)).1) 14 0 = pj_fi R 171 21 := by rw [pj_fi_wa, kF.1 (14, 0) (by decide)]; exact hb
  have w := tx_c1b_14 (c := c) (z4 := (Int32.ofInt 4) * pj_fi R 171 22) (by omega) rc rb rF rL (by rw [a22]; exact hr) l _ (tx_190 R (pj_fi R 171 21))
  rw [← tx_191, a22, a21] at w
  unfold tx_B1_14
  rw [hb, pj_bd_p, pj_nm_e, cb]
  exact w
