/-! A TOW, ON BOTH SIDES -/
theorem mr_freel (C : pj_G) (c : Int32) (hy : ∀ j : Nat, (j : Int) < (pj_fi C 21 0).toInt → 0 ≤ (pj_ai C 23 j).toInt) (h6 : (pj_fi C 21 0).toInt ≤ 6) : ∀ (m fu fv : Nat) (b : Int32), 0 ≤ b.toInt → (pj_fi C 21 0).toInt - b.toInt ≤ (m : Int) → m < fu → m < fv → (L_70_21x C c fu b).toInt = -1 → (L_71_21x C c fv b).toInt = -1 → ∀ j : Nat, b.toInt ≤ (j : Int) → (j : Int) < (pj_fi C 21 0).toInt → ¬ pj_ai C 22 j = c := by
  have k1 : (Int32.ofInt 1).toInt = 1 := by decide
  intro m
  induction m with
  | zero =>
    intro fu fv b h0 hm hf hg e1 e2 j h1 h2
    exact absurd h2 (by omega)
  | succ m ih =>
    intro fu fv b h0 hm hf hg e1 e2 j h1 h2
    obtain ⟨g, rfl⟩ : ∃ q, fu = q + 1 := ⟨fu - 1, by omega⟩
    obtain ⟨g2, rfl⟩ : ∃ q, fv = q + 1 := ⟨fv - 1, by omega⟩
    rw [mr_70s, pj_b_geF (show b.toInt < (pj_fi C 21 0).toInt by omega), pj_cF] at e1
    rw [mr_71s, pj_b_geF (show b.toInt < (pj_fi C 21 0).toInt by omega), pj_cF] at e2
    have s : (b + Int32.ofInt 1).toInt = b.toInt + 1 := by rw [pj_addI (by omega) (by omega), k1]
    cases q : pj_c1 .ne (pj_ai C 22 b.toInt.toNat) c with
    | true =>
      rw [q, pj_cT] at e1 e2
      by_cases z : (j : Int) = b.toInt
      · have zj : b.toInt.toNat = j := by omega
        rw [zj] at q
        have := pj_u_neT q
        intro e
        exact this (by rw [e])
      · exact ih g g2 (b + Int32.ofInt 1) (by omega) (by omega) (by omega) (by omega) e1 e2 j (by omega) h2
    | false =>
      rw [q, pj_cF] at e1 e2
      have y0 := hy b.toInt.toNat (by omega)
      by_cases z : (pj_ai C 23 b.toInt.toNat).toInt = 0
      · rw [pj_b0_neF z, pj_cF] at e1
        exact absurd e1 (by omega)
      · rw [pj_b0_leF (show 0 < (pj_ai C 23 b.toInt.toNat).toInt by omega), pj_cF] at e2
        exact absurd e2 (by omega)
theorem mr_abs {x y : Int32} (hx : 0 ≤ x.toInt ∧ x.toInt ≤ 99) (hy : 0 ≤ y.toInt ∧ y.toInt ≤ 99) : (if 0 ≤ x - y then x - y else 0 - (x - y)) = (if 0 ≤ y - x then y - x else 0 - (y - x)) := by
  have z : (0 : Int32).toInt = 0 := pj_lz0
  have a : (x - y).toInt = x.toInt - y.toInt := pj_subI (by omega) (by omega)
  have b : (y - x).toInt = y.toInt - x.toInt := pj_subI (by omega) (by omega)
  have c : (0 - (x - y)).toInt = y.toInt - x.toInt := by rw [pj_subI (by omega) (by omega)]; omega
  have d : (0 - (y - x)).toInt = x.toInt - y.toInt := by rw [pj_subI (by omega) (by omega)]; omega
  apply Int32.toInt_inj.mp
  by_cases h : y.toInt ≤ x.toInt
  · rw [if_pos (show (0 : Int32) ≤ x - y by rw [Int32.le_iff_toInt_le]; omega)]
    by_cases g : x.toInt ≤ y.toInt
    · rw [if_pos (show (0 : Int32) ≤ y - x by rw [Int32.le_iff_toInt_le]; omega)]
      omega
    · rw [if_neg (show ¬ (0 : Int32) ≤ y - x by rw [Int32.le_iff_toInt_le]; omega)]
      omega
  · rw [if_neg (show ¬ (0 : Int32) ≤ x - y by rw [Int32.le_iff_toInt_le]; omega), if_pos (show (0 : Int32) ≤ y - x by rw [Int32.le_iff_toInt_le]; omega)]
    omega
def mr_t7 (X : pj_G) (a : Nat) (x0 x1 x2 x3 x4 x5 x6 : Int32) : pj_G := pj_wa (pj_wa (pj_wa (pj_wa (pj_wa (pj_wa (pj_wa X a 0 x0) a 1 x1) a 2 x2) a 3 x3) a 4 x4) a 5 x5) a 6 x6
theorem mr_t7s {X : pj_G} (hS : pj_coks pj_tb X.1 = true) {a : Nat} {l : List (List Nat)} (ht : pj_tat a = some (1, 7, l)) (x0 x1 x2 x3 x4 x5 x6 : Int32) : pj_coks pj_tb (mr_t7 X a x0 x1 x2 x3 x4 x5 x6).1 = true := by
  unfold mr_t7
  exact mr_sa (mr_sa (mr_sa (mr_sa (mr_sa (mr_sa (mr_sa hS ht _ _) ht _ _) ht _ _) ht _ _) ht _ _) ht _ _) ht _ _
theorem mr_t7a {X : pj_G} (hS : pj_coks pj_tb X.1 = true) {a : Nat} {l : List (List Nat)} (ht : pj_tat a = some (1, 7, l)) (x0 x1 x2 x3 x4 x5 x6 : Int32) : pj_ai (mr_t7 X a x0 x1 x2 x3 x4 x5 x6) a 0 = x0 ∧ pj_ai (mr_t7 X a x0 x1 x2 x3 x4 x5 x6) a 1 = x1 ∧ pj_ai (mr_t7 X a x0 x1 x2 x3 x4 x5 x6) a 2 = x2 ∧ pj_ai (mr_t7 X a x0 x1 x2 x3 x4 x5 x6) a 3 = x3 ∧ pj_ai (mr_t7 X a x0 x1 x2 x3 x4 x5 x6) a 4 = x4 ∧ pj_ai (mr_t7 X a x0 x1 x2 x3 x4 x5 x6) a 5 = x5 ∧ pj_ai (mr_t7 X a x0 x1 x2 x3 x4 x5 x6) a 6 = x6 := by
  have s0 := mr_sa hS ht 0 x0
  have s1 := mr_sa s0 ht 1 x1
  have s2 := mr_sa s1 ht 2 x2
  have s3 := mr_sa s2 ht 3 x3
  have s4 := mr_sa s3 ht 4 x4
  have s5 := mr_sa s4 ht 5 x5
  have n : ∀ (Y : pj_G) (j i : Nat) (x : Int32), i ≠ j → pj_ai (pj_wa Y a j x) a i = pj_ai Y a i := fun Y j i x h => pj_ai_wa_nj Y a j x i h
  unfold mr_t7
  refine ⟨?_, ?_, ?_, ?_, ?_, ?_, ?_⟩
  · rw [n _ 6 0 _ (by decide), n _ 5 0 _ (by decide), n _ 4 0 _ (by decide), n _ 3 0 _ (by decide), n _ 2 0 _ (by decide), n _ 1 0 _ (by decide), pj_ai_wa_eq hS ht]
  · rw [n _ 6 1 _ (by decide), n _ 5 1 _ (by decide), n _ 4 1 _ (by decide), n _ 3 1 _ (by decide), n _ 2 1 _ (by decide), pj_ai_wa_eq s0 ht]
  · rw [n _ 6 2 _ (by decide), n _ 5 2 _ (by decide), n _ 4 2 _ (by decide), n _ 3 2 _ (by decide), pj_ai_wa_eq s1 ht]
  · rw [n _ 6 3 _ (by decide), n _ 5 3 _ (by decide), n _ 4 3 _ (by decide), pj_ai_wa_eq s2 ht]
  · rw [n _ 6 4 _ (by decide), n _ 5 4 _ (by decide), pj_ai_wa_eq s3 ht]
  · rw [n _ 6 5 _ (by decide), pj_ai_wa_eq s4 ht]
  · rw [pj_ai_wa_eq s5 ht]
theorem mr_t7n (X : pj_G) (a b j : Nat) (h : b ≠ a) (x0 x1 x2 x3 x4 x5 x6 : Int32) : pj_ai (mr_t7 X a x0 x1 x2 x3 x4 x5 x6) b j = pj_ai X b j := by
  unfold mr_t7
  rw [pj_ai_wa_ne _ _ _ _ _ _ h, pj_ai_wa_ne _ _ _ _ _ _ h, pj_ai_wa_ne _ _ _ _ _ _ h, pj_ai_wa_ne _ _ _ _ _ _ h, pj_ai_wa_ne _ _ _ _ _ _ h, pj_ai_wa_ne _ _ _ _ _ _ h, pj_ai_wa_ne _ _ _ _ _ _ h]
theorem mr_t7f (X : pj_G) (a b k : Nat) (x0 x1 x2 x3 x4 x5 x6 : Int32) : pj_fi (mr_t7 X a x0 x1 x2 x3 x4 x5 x6) b k = pj_fi X b k ∧ pj_fv (mr_t7 X a x0 x1 x2 x3 x4 x5 x6) b k = pj_fv X b k := by
  unfold mr_t7
  refine ⟨?_, ?_⟩
  · rw [pj_fi_wa, pj_fi_wa, pj_fi_wa, pj_fi_wa, pj_fi_wa, pj_fi_wa, pj_fi_wa]
  · rw [pj_fv_wa, pj_fv_wa, pj_fv_wa, pj_fv_wa, pj_fv_wa, pj_fv_wa, pj_fv_wa]
theorem mr_rbw (X : pj_G) (a j : Nat) (x : Int32) (b k n : Nat) : pj_rb (pj_wa X a j x) b k n = pj_rb X b k n := by
  unfold pj_rb
  rw [pj_fv_wa]
theorem mr_Qk {C C' R R' : pj_G} (h : mr_Q C R) (c1 : pj_fi C' 27 1 = pj_fi C 27 1) (c0 : pj_fv C' 27 0 = pj_fv C 27 0) (a28 : ∀ j, pj_ai C' 28 j = pj_ai C 28 j) (a29 : ∀ j, pj_ai C' 29 j = pj_ai C 29 j) (r26 : pj_fi R' 171 26 = pj_fi R 171 26) (r182 : ∀ j, pj_ai R' 182 j = pj_ai R 182 j) : mr_Q C' R' := by
  have rc : ∀ j, mr_rc C' j = mr_rc C j := fun j => by
    unfold mr_rc pj_rb
    rw [c0, a28, a29]
  rcases h with ⟨z1, z2⟩ | ⟨s, t, e1, e2, g1, g2, g3, g4, g5, g6, g7⟩
  · exact .inl ⟨by rw [c1]; exact z1, by rw [r26]; exact z2⟩
  · refine .inr ⟨s, t, by rw [c1]; exact e1, by rw [r26]; exact e2, g1, g2, g3, g4, ?_, fun j hj => by rw [rc]; exact g6 j hj, fun j hj => by rw [r182]; exact g7 j hj⟩
    rw [mr_cdc (f := mr_rc C') (g := mr_rc C) s 0 (fun j _ _ => rc j), mr_cdc (f := pj_ai R' 182) (g := pj_ai R 182) t 0 (fun j _ _ => r182 j)]
    exact g5
/-- the things that THE RULE reckons with -/
theorem mr_101 (C : pj_G) (b c : Int32) : F_101x C b c = (mr_99 (F_65x (mr_t7 C 33 (if 0 ≤ F_100x C c - F_100x C (pj_ai C 22 b.toInt.toNat) then F_100x C c - F_100x C (pj_ai C 22 b.toInt.toNat) else 0 - (F_100x C c - F_100x C (pj_ai C 22 b.toInt.toNat))) (cond (pj_c1 .ge (F_100x C c) (F_100x C (pj_ai C 22 b.toInt.toNat))) (Int32.ofInt 0) (Int32.ofInt 1)) (pj_ai C 31 b.toInt.toNat) (pj_ai C 24 b.toInt.toNat) (cond (pj_c1 .ne c (Int32.ofInt (-1))) (cond (pj_rb C 6 0 7) (pj_ai C 11 c.toInt.toNat) (pj_ai C 18 c.toInt.toNat)) (Int32.ofInt 0)) b (pj_fi C 21 7 - pj_fi C 21 7 / ((Int8.ofInt 24).toInt32) * ((Int8.ofInt 24).toInt32)))).1, (F_65x (mr_t7 C 33 (if 0 ≤ F_100x C c - F_100x C (pj_ai C 22 b.toInt.toNat) then F_100x C c - F_100x C (pj_ai C 22 b.toInt.toNat) else 0 - (F_100x C c - F_100x C (pj_ai C 22 b.toInt.toNat))) (cond (pj_c1 .ge (F_100x C c) (F_100x C (pj_ai C 22 b.toInt.toNat))) (Int32.ofInt 0) (Int32.ofInt 1)) (pj_ai C 31 b.toInt.toNat) (pj_ai C 24 b.toInt.toNat) (cond (pj_c1 .ne c (Int32.ofInt (-1))) (cond (pj_rb C 6 0 7) (pj_ai C 11 c.toInt.toNat) (pj_ai C 18 c.toInt.toNat)) (Int32.ofInt 0)) b (pj_fi C 21 7 - pj_fi C 21 7 / ((Int8.ofInt 24).toInt32) * ((Int8.ofInt 24).toInt32)))).2) := by
  have b0 : (Int32.ofInt 0).toInt.toNat = 0 := by decide
  have b1 : (Int32.ofInt 1).toInt.toNat = 1 := by decide
  have b2 : (Int32.ofInt 2).toInt.toNat = 2 := by decide
  have b3 : (Int32.ofInt 3).toInt.toNat = 3 := by decide
  have b4 : (Int32.ofInt 4).toInt.toNat = 4 := by decide
  have b5 : (Int32.ofInt 5).toInt.toNat = 5 := by decide
  have b6 : ((Int8.ofInt 6).toInt32).toInt.toNat = 6 := by decide
  have w : ∀ (X : pj_G) (j : Nat) (x : Int32) (i : Nat), pj_ai (pj_wa X 33 j x) 31 i = pj_ai X 31 i := fun X j x i => pj_ai_wa_ne _ _ _ _ _ _ (by decide)
  have w2 : ∀ (X : pj_G) (j : Nat) (x : Int32) (i : Nat), pj_ai (pj_wa X 33 j x) 24 i = pj_ai X 24 i := fun X j x i => pj_ai_wa_ne _ _ _ _ _ _ (by decide)
  have w3 : ∀ (X : pj_G) (j : Nat) (x : Int32) (i : Nat), pj_ai (pj_wa X 33 j x) 11 i = pj_ai X 11 i := fun X j x i => pj_ai_wa_ne _ _ _ _ _ _ (by decide)
  have w4 : ∀ (X : pj_G) (j : Nat) (x : Int32) (i : Nat), pj_ai (pj_wa X 33 j x) 18 i = pj_ai X 18 i := fun X j x i => pj_ai_wa_ne _ _ _ _ _ _ (by decide)
  have w5 : ∀ (X : pj_G) (j : Nat) (x : Int32), pj_fi (pj_wa X 33 j x) 21 7 = pj_fi X 21 7 := fun X j x => pj_fi_wa _ _ _ _ _ _
  have w6 : ∀ (X : pj_G) (j : Nat) (x : Int32), pj_rb (pj_wa X 33 j x) 6 0 7 = pj_rb X 6 0 7 := fun X j x => mr_rbw _ _ _ _ _ _ _
  rw [F_101x_e]
  unfold mr_t7 mr_99
  simp only [pj_nm_x, pj_bd_x, b0, b1, b2, b3, b4, b5, b6, w, w2, w3, w4, w5, w6]
  cases pj_c1 .ge (F_100x C c) (F_100x C (pj_ai C 22 b.toInt.toNat)) with
  | true =>
    cases pj_c1 .ne c (Int32.ofInt (-1)) with
    | true =>
      cases pj_rb C 6 0 7 with
      | true => simp only [pj_cTx]
      | false => simp only [pj_cTx, pj_cFx]
    | false => simp only [pj_cTx, pj_cFx]
  | false =>
    cases pj_c1 .ne c (Int32.ofInt (-1)) with
    | true =>
      cases pj_rb C 6 0 7 with
      | true => simp only [pj_cTx, pj_cFx]
      | false => simp only [pj_cTx, pj_cFx]
    | false => simp only [pj_cFx]
theorem mr_205 (R : pj_G) (b c : Int32) : F_205x R b c = F_203x (mr_t7 R 185 (if 0 ≤ F_204x R (pj_ai R 179 (Int32.ofInt 4 * b + Int32.ofInt 0).toInt.toNat) - F_204x R c then F_204x R (pj_ai R 179 (Int32.ofInt 4 * b + Int32.ofInt 0).toInt.toNat) - F_204x R c else 0 - (F_204x R (pj_ai R 179 (Int32.ofInt 4 * b + Int32.ofInt 0).toInt.toNat) - F_204x R c)) (cond (pj_c1 .ge (F_204x R c) (F_204x R (pj_ai R 179 (Int32.ofInt 4 * b + Int32.ofInt 0).toInt.toNat))) (Int32.ofInt 0) (Int32.ofInt 1)) (pj_ai R 177 b.toInt.toNat) (pj_ai R 179 (Int32.ofInt 4 * b + Int32.ofInt 3).toInt.toNat) (cond (pj_c1 .ge c 0) (pj_ai R 176 c.toInt.toNat) (Int32.ofInt 0)) b (pj_ai R 179 30 - pj_ai R 179 30 / ((Int8.ofInt 24).toInt32) * ((Int8.ofInt 24).toInt32))) := by
  have b0 : (Int32.ofInt 0).toInt.toNat = 0 := by decide
  have b1 : (Int32.ofInt 1).toInt.toNat = 1 := by decide
  have b2 : (Int32.ofInt 2).toInt.toNat = 2 := by decide
  have b3 : (Int32.ofInt 3).toInt.toNat = 3 := by decide
  have b4 : (Int32.ofInt 4).toInt.toNat = 4 := by decide
  have b5 : (Int32.ofInt 5).toInt.toNat = 5 := by decide
  have b6 : ((Int8.ofInt 6).toInt32).toInt.toNat = 6 := by decide
  have b30 : (((Int8.ofInt 30).toInt32)).toInt.toNat = 30 := by decide
  have w : ∀ (X : pj_G) (j : Nat) (x : Int32) (i : Nat), pj_ai (pj_wa X 185 j x) 177 i = pj_ai X 177 i := fun X j x i => pj_ai_wa_ne _ _ _ _ _ _ (by decide)
  have w2 : ∀ (X : pj_G) (j : Nat) (x : Int32) (i : Nat), pj_ai (pj_wa X 185 j x) 179 i = pj_ai X 179 i := fun X j x i => pj_ai_wa_ne _ _ _ _ _ _ (by decide)
  have w3 : ∀ (X : pj_G) (j : Nat) (x : Int32) (i : Nat), pj_ai (pj_wa X 185 j x) 176 i = pj_ai X 176 i := fun X j x i => pj_ai_wa_ne _ _ _ _ _ _ (by decide)
  have f0 : ∀ X, F_173x X (Int32.ofInt 0) = Int32.ofInt 0 := fun X => (mr_173 X).1
  have f1 : ∀ X, F_173x X (Int32.ofInt 1) = Int32.ofInt 1 := fun X => (mr_173 X).2
  rw [F_205x_e]
  unfold mr_t7
  simp only [pj_nm_x, pj_bd_x, b0, b1, b2, b3, b4, b5, b6, b30, w, w2, w3, f0, f1]
  cases pj_c1 .ge (F_204x R c) (F_204x R (pj_ai R 179 (Int32.ofInt 4 * b + Int32.ofInt 0).toInt.toNat)) with
  | true =>
    cases pj_c1 .ge c 0 with
    | true => simp only [pj_cTx]
    | false => simp only [pj_cTx, pj_cFx]
  | false =>
    cases pj_c1 .ge c 0 with
    | true => simp only [pj_cTx, pj_cFx]
    | false => simp only [pj_cFx]
theorem mr_101a (C : pj_G) (b c : Int32) : (F_101x C b c).1 = mr_99 (F_65x (mr_t7 C 33 (if 0 ≤ F_100x C c - F_100x C (pj_ai C 22 b.toInt.toNat) then F_100x C c - F_100x C (pj_ai C 22 b.toInt.toNat) else 0 - (F_100x C c - F_100x C (pj_ai C 22 b.toInt.toNat))) (cond (pj_c1 .ge (F_100x C c) (F_100x C (pj_ai C 22 b.toInt.toNat))) (Int32.ofInt 0) (Int32.ofInt 1)) (pj_ai C 31 b.toInt.toNat) (pj_ai C 24 b.toInt.toNat) (cond (pj_c1 .ne c (Int32.ofInt (-1))) (cond (pj_rb C 6 0 7) (pj_ai C 11 c.toInt.toNat) (pj_ai C 18 c.toInt.toNat)) (Int32.ofInt 0)) b (pj_fi C 21 7 - pj_fi C 21 7 / ((Int8.ofInt 24).toInt32) * ((Int8.ofInt 24).toInt32)))).1 := by
  rw [mr_101]
theorem mr_hrsA {C R : pj_G} (iC : pj_Inv C) (iR : pj_Inv R) (hQ : mr_Q C R) (x0 x1 x2 x3 x4 x5 x6 : Int32) : mr_99 (F_65x (mr_t7 C 33 x0 x1 x2 x3 x4 x5 x6)).1 = (F_203x (mr_t7 R 185 x0 x1 x2 x3 x4 x5 x6)).1 := by
  have q : mr_Q (mr_t7 C 33 x0 x1 x2 x3 x4 x5 x6) (mr_t7 R 185 x0 x1 x2 x3 x4 x5 x6) := mr_Qk hQ (mr_t7f _ _ _ _ _ _ _ _ _ _ _).1 (mr_t7f _ _ _ _ _ _ _ _ _ _ _).2 (fun j => mr_t7n _ _ _ _ (by decide) _ _ _ _ _ _ _) (fun j => mr_t7n _ _ _ _ (by decide) _ _ _ _ _ _ _) (mr_t7f _ _ _ _ _ _ _ _ _ _ _).1 (fun j => mr_t7n _ _ _ _ (by decide) _ _ _ _ _ _ _)
  obtain ⟨a0, a1, a2, a3, a4, a5, a6⟩ := mr_t7a iC.1 (a := 33) rfl x0 x1 x2 x3 x4 x5 x6
  obtain ⟨d0, d1, d2, d3, d4, d5, d6⟩ := mr_t7a iR.1 (a := 185) rfl x0 x1 x2 x3 x4 x5 x6
  have sC := mr_t7s iC.1 (a := 33) rfl x0 x1 x2 x3 x4 x5 x6
  have sR := mr_t7s iR.1 (a := 185) rfl x0 x1 x2 x3 x4 x5 x6
  generalize mr_t7 C 33 x0 x1 x2 x3 x4 x5 x6 = X at q a0 a1 a2 a3 a4 a5 a6 sC ⊢
  generalize mr_t7 R 185 x0 x1 x2 x3 x4 x5 x6 = Y at q d0 d1 d2 d3 d4 d5 d6 sR ⊢
  refine mr_reck sC sR q (fun j hj => ?_)
  rcases (show j = 0 ∨ j = 1 ∨ j = 2 ∨ j = 3 ∨ j = 4 ∨ j = 5 ∨ j = 6 by omega) with rfl | rfl | rfl | rfl | rfl | rfl | rfl
  · exact a0.trans d0.symm
  · exact a1.trans d1.symm
  · exact a2.trans d2.symm
  · exact a3.trans d3.symm
  · exact a4.trans d4.symm
  · exact a5.trans d5.symm
  · exact a6.trans d6.symm
/-- what the two sides have alike -/
def mr_A (kc : Int) (C R : pj_G) : Prop := pj_Inv C ∧ pj_Inv R ∧ mr_C C R ∧ mr_V C R ∧ mr_L C R ∧ mr_H C R ∧ kc = (pj_fi R 171 4).toInt
theorem mr_nb {kc : Int} {C R : pj_G} (h : mr_A kc C R) : ((0 : Int) ≤ (pj_fi C 21 0).toInt ∧ (pj_fi C 21 0).toInt ≤ 6) ∧ ((0 : Int) ≤ (pj_fi C 21 5).toInt ∧ (pj_fi C 21 5).toInt ≤ 6) ∧ (0 : Int) ≤ kc ∧ kc ≤ 10 := by
  have a := h.1.2.1 21 0 (0, 6) rfl
  have b := h.1.2.1 21 5 (0, 6) rfl
  have c := h.2.1.2.1 171 4 (0, 10) rfl
  have e := h.2.2.2.2.2.2
  have c1 : (0 : Int) ≤ (pj_fi R 171 4).toInt := c.1
  have c2 : (pj_fi R 171 4).toInt ≤ (10 : Int) := c.2
  exact ⟨a, b, by omega, by omega⟩
theorem mr_hrs {B kc : Int} {C R : pj_G} (h : mr_A kc C R) (hS : mr_S B kc C R) (hQ : mr_Q C R) (b c : Int32) (hb : 0 ≤ b.toInt ∧ b.toInt < (pj_fi C 21 0).toInt) (hc : -1 ≤ c.toInt ∧ c.toInt < kc) : (F_101x C b c).1 = (F_205x R b c).1 := by
  have km : (Int32.ofInt (-1)).toInt = -1 := by decide
  obtain ⟨⟨nb0, nb6⟩, -, kc0, kc10⟩ := mr_nb h
  obtain ⟨iC, iR, hcn, hV, hL, hH, hk⟩ := h
  obtain ⟨n, hn⟩ : ∃ n : Nat, b.toInt = (n : Int) := ⟨b.toInt.toNat, by omega⟩
  have nn : b.toInt.toNat = n := by omega
  obtain ⟨x0, x1, x2, x3⟩ := mr_ix hn (by omega)
  obtain ⟨r1, r2, r3, r4⟩ := hS.1 n (by omega)
  obtain ⟨-, o2, -⟩ := hS.2.2.2
  obtain ⟨-, o21, o22⟩ := o2 n (by omega)
  have e22 : pj_ai C 22 n = pj_ai R 179 (4 * n) := r1.trans (by rw [Nat.zero_add])
  have e24 : pj_ai C 24 n = pj_ai R 179 (4 * n + 3) := r4.trans (by rw [Nat.zero_add])
  rw [Nat.zero_add] at o21 o22
  have e7 : pj_fi C 21 7 = pj_ai R 179 30 := hS.2.2.1
  have eF : F_100x C (pj_ai R 179 (4 * n)) = F_204x R (pj_ai R 179 (4 * n)) := mr_100 hV _ o21 (by omega)
  have eG : F_100x C c = F_204x R c := mr_100 hV _ hc.1 (by omega)
  have eW : cond (pj_c1 .ne c (Int32.ofInt (-1))) (cond (pj_rb C 6 0 7) (pj_ai C 11 c.toInt.toNat) (pj_ai C 18 c.toInt.toNat)) (Int32.ofInt 0) = cond (pj_c1 .ge c 0) (pj_ai R 176 c.toInt.toNat) (Int32.ofInt 0) := by
    by_cases q : c.toInt = -1
    · rw [pj_b_neF (show c.toInt = (Int32.ofInt (-1)).toInt by omega), pj_cF, pj_b0_geF (show c.toInt < 0 by omega), pj_cF]
    · rw [pj_b_neT (show ¬ c.toInt = (Int32.ofInt (-1)).toInt by omega), pj_cT, pj_b0_geT (show 0 ≤ c.toInt by omega), pj_cT]
      rcases hV with v | v
      · rw [pj_rb_t v.1, pj_cT]
        exact (v.2.2.2.2 c.toInt.toNat (by omega)).2.2.2
      · rw [pj_rb_f v.1 rfl, pj_cF]
        exact (v.2.2.2.2 c.toInt.toNat (by omega)).2.2.2
  have rF := fr_204x R iR (pj_ai R 179 (4 * n)) (by have := pj_i32 (pj_ai R 179 (4 * n)); omega)
  have rG := fr_204x R iR c (by have := pj_i32 c; omega)
  rw [mr_101a, mr_205, nn, x0, x3, e22, e24, e7, eF, eG, eW, hL n (by omega), mr_abs rG rF]
  exact mr_hrsA iC iR hQ _ _ _ _ _ _ _
