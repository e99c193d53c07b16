theorem mr_why {B kc : Int} {C R : pj_G} (h : mr_A kc C R) (hS : mr_S B kc C R) (b c : Int32) : (∃ w : Int32, w.toInt < 0 ∧ F_99x C b c = (w, C) ∧ F_219x R b c = w) ∨ (F_99x C b c = F_101x C b c ∧ F_219x R b c = Int32.ofInt 0 ∧ (0 ≤ b.toInt ∧ b.toInt < (pj_fi C 21 0).toInt) ∧ (-1 ≤ c.toInt ∧ c.toInt < kc) ∧ (c.toInt = -1 ∨ ∀ j : Nat, (j : Int) < (pj_fi C 21 0).toInt → ¬ pj_ai R 179 (4 * j) = c)) := by
  have k0 : (Int32.ofInt 0).toInt = 0 := by decide
  have k1 : (Int32.ofInt 1).toInt = 1 := by decide
  have km : (Int32.ofInt (-1)).toInt = -1 := by decide
  have k2 : ((Int8.ofInt (-2)).toInt32).toInt = -2 := by decide
  have k3 : ((Int8.ofInt (-3)).toInt32).toInt = -3 := by decide
  have k4 : ((Int8.ofInt (-4)).toInt32).toInt = -4 := by decide
  obtain ⟨⟨nb0, nb6⟩, -, kc0, kc10⟩ := mr_nb h
  obtain ⟨iC, iR, hcn, hV, hL, hH, hk⟩ := h
  obtain ⟨p1, p2⟩ := mr_95 (C := C) b
  obtain ⟨q1, q2⟩ := mr_178 iR b
  have hc5 := hcn.1
  rw [F_99x_e, F_219x_e]
  simp only [pj_nm_x, pj_bd_x]
  by_cases hb : 0 ≤ b.toInt ∧ b.toInt < (pj_fi C 21 0).toInt
  · have t1 := p1 hb
    have t2 := q1 (by omega)
    rw [pj_b0_eqF (show ¬ (F_95x C b).toInt = 0 by omega), pj_cF, pj_b0_eqF (show ¬ (F_178x R b).toInt = 0 by omega), pj_cF]
    obtain ⟨n, hn⟩ : ∃ n : Nat, b.toInt = (n : Int) := ⟨b.toInt.toNat, by omega⟩
    have nn : b.toInt.toNat = n := by omega
    obtain ⟨x0, x1, x2, x3⟩ := mr_ix hn (by omega)
    obtain ⟨r1, r2, r3, r4⟩ := hS.1 n (by omega)
    have e22 : pj_ai C 22 n = pj_ai R 179 (4 * n) := r1.trans (by rw [Nat.zero_add])
    have e23 : pj_ai C 23 n = pj_ai R 179 (4 * n + 1) := r2.trans (by rw [Nat.zero_add])
    have e31 := hL n (by omega)
    rw [nn, x0, x1, e22, e23]
    by_cases z : c.toInt = -1
    · have ez := pj_b_eqT (x := c) (y := Int32.ofInt (-1)) (by omega)
      rw [ez, pj_cT, pj_cT]
      by_cases hy : 0 < (pj_ai R 179 (4 * n + 1)).toInt
      · rw [pj_b0_gtT hy, pj_cT, pj_cT]
        exact .inl ⟨_, (show ((Int8.ofInt (-2)).toInt32).toInt < 0 by omega), rfl, rfl⟩
      · rw [pj_b0_gtF (show (pj_ai R 179 (4 * n + 1)).toInt ≤ 0 by omega), pj_cF, pj_cF]
        by_cases hw : (pj_ai R 179 (4 * n)).toInt = c.toInt
        · rw [pj_b_neF hw, pj_cF, pj_cF]
          exact .inl ⟨_, (show ((Int8.ofInt (-2)).toInt32).toInt < 0 by omega), rfl, rfl⟩
        · rw [pj_b_neT hw, pj_cT, pj_cT]
          exact .inr ⟨rfl, rfl, hb, by omega, .inl z⟩
    · have ez := pj_b_eqF (x := c) (y := Int32.ofInt (-1)) (by omega)
      rw [ez, pj_cF, pj_cF]
      obtain ⟨u1, u2⟩ := mr_94 hV c
      obtain ⟨w1, w2⟩ := mr_177 iR c
      by_cases hx : 0 ≤ c.toInt ∧ c.toInt < (pj_fi R 171 4).toInt
      · have t3 := u1 hx
        have t4 := w1 hx
        rw [pj_b0_neT (show ¬ (F_94x C c).toInt = 0 by omega), pj_cT, pj_b0_neT (show ¬ (F_177x R c).toInt = 0 by omega), pj_cT]
        by_cases hy : 0 < (pj_ai R 179 (4 * n + 1)).toInt
        · rw [pj_b0_gtT hy, pj_cT, pj_cT]
          exact .inl ⟨_, (show ((Int8.ofInt (-2)).toInt32).toInt < 0 by omega), rfl, rfl⟩
        · rw [pj_b0_gtF (show (pj_ai R 179 (4 * n + 1)).toInt ≤ 0 by omega), pj_cF, pj_cF]
          by_cases hw : (pj_ai R 179 (4 * n)).toInt = c.toInt
          · rw [pj_b_neF hw, pj_cF, pj_cF]
            exact .inl ⟨_, (show ((Int8.ofInt (-2)).toInt32).toInt < 0 by omega), rfl, rfl⟩
          · rw [pj_b_neT hw, pj_cT, pj_cT]
            -- the crossing's width, on both sides
            have key : ∀ wd : Int32, wd = pj_ai R 176 c.toInt.toNat → (∃ w : Int32, w.toInt < 0 ∧ cond (pj_c1 .ge (pj_ai C 31 n) wd) (cond (pj_c1 .ne (F_72_21x C c) 0) ((F_101x C b c).1, (F_101x C b c).2) (((Int8.ofInt (-4)).toInt32), C)) (((Int8.ofInt (-3)).toInt32), C) = (w, C) ∧ cond (pj_c1 .ge (pj_ai R 177 n) (pj_ai R 176 c.toInt.toNat)) (cond (pj_c1 .ge (F_206x R c (Int32.ofInt 1)) 0) ((Int8.ofInt (-4)).toInt32) (cond (pj_c1 .lt (F_206x R c (Int32.ofInt 0)) 0) (Int32.ofInt 0) ((Int8.ofInt (-4)).toInt32))) ((Int8.ofInt (-3)).toInt32) = w) ∨ (cond (pj_c1 .ge (pj_ai C 31 n) wd) (cond (pj_c1 .ne (F_72_21x C c) 0) ((F_101x C b c).1, (F_101x C b c).2) (((Int8.ofInt (-4)).toInt32), C)) (((Int8.ofInt (-3)).toInt32), C) = F_101x C b c ∧ cond (pj_c1 .ge (pj_ai R 177 n) (pj_ai R 176 c.toInt.toNat)) (cond (pj_c1 .ge (F_206x R c (Int32.ofInt 1)) 0) ((Int8.ofInt (-4)).toInt32) (cond (pj_c1 .lt (F_206x R c (Int32.ofInt 0)) 0) (Int32.ofInt 0) ((Int8.ofInt (-4)).toInt32))) ((Int8.ofInt (-3)).toInt32) = Int32.ofInt 0 ∧ (0 ≤ b.toInt ∧ b.toInt < (pj_fi C 21 0).toInt) ∧ (-1 ≤ c.toInt ∧ c.toInt < kc) ∧ (c.toInt = -1 ∨ ∀ j : Nat, (j : Int) < (pj_fi C 21 0).toInt → ¬ pj_ai R 179 (4 * j) = c)) := by
              intro wd hwd
              rw [hwd, e31]
              cases pj_c1 .ge (pj_ai R 177 n) (pj_ai R 176 c.toInt.toNat) with
              | false =>
                rw [pj_cF, pj_cF]
                exact .inl ⟨_, (show ((Int8.ofInt (-3)).toInt32).toInt < 0 by omega), rfl, rfl⟩
              | true =>
                rw [pj_cT, pj_cT]
                obtain ⟨a1, a2⟩ := mr_at2 iC iR hc5 hS c
                obtain ⟨s1, -⟩ := fr_206x R iR c (Int32.ofInt 1) (by decide)
                obtain ⟨s2, -⟩ := fr_206x R iR c (Int32.ofInt 0) (by decide)
                rw [F_72_21x_e]
                simp only [pj_nm_x]
                rw [a1, a2]
                by_cases y1 : (F_206x R c (Int32.ofInt 1)).toInt = -1
                · rw [pj_b_neF (show (F_206x R c (Int32.ofInt 1)).toInt = (Int32.ofInt (-1)).toInt by omega), pj_cF, pj_b0_geF (show (F_206x R c (Int32.ofInt 1)).toInt < 0 by omega), pj_cF]
                  by_cases y2 : (F_206x R c (Int32.ofInt 0)).toInt = -1
                  · rw [pj_b_neF (show (F_206x R c (Int32.ofInt 0)).toInt = (Int32.ofInt (-1)).toInt by omega), pj_cF, pj_b0_ltT (show (F_206x R c (Int32.ofInt 0)).toInt < 0 by omega), pj_cT, pj_b0_neT (show ¬ (Int32.ofInt 1).toInt = 0 by omega), pj_cT]
                    refine .inr ⟨rfl, rfl, hb, by omega, .inr (fun j hj e => ?_)⟩
                    rw [← a1, F_70_21x_e] at y1
                    rw [← a2, F_71_21x_e] at y2
                    have yy : ∀ i : Nat, (i : Int) < (pj_fi C 21 0).toInt → 0 ≤ (pj_ai C 23 i).toInt := fun i hi => by
                      have y5 := mr_yet iR i (by omega)
                      have y6 : pj_ai C 23 i = pj_ai R 179 (4 * i + 1) := (hS.1 i hi).2.1.trans (by rw [Nat.zero_add])
                      rw [y6]
                      exact y5
                    have nf := mr_freel C c yy nb6 6 7 7 (Int32.ofInt 0) (by omega) (by omega) (by decide) (by decide) y1 y2 j (by omega) hj
                    have e6 : pj_ai C 22 j = pj_ai R 179 (4 * j) := (hS.1 j hj).1.trans (by rw [Nat.zero_add])
                    exact nf (e6.trans e)
                  · rw [pj_b_neT (show ¬ (F_206x R c (Int32.ofInt 0)).toInt = (Int32.ofInt (-1)).toInt by omega), pj_cT, pj_b0_ltF (show 0 ≤ (F_206x R c (Int32.ofInt 0)).toInt by omega), pj_cF, pj_b0_neF k0, pj_cF]
                    exact .inl ⟨_, (show ((Int8.ofInt (-4)).toInt32).toInt < 0 by omega), rfl, rfl⟩
                · rw [pj_b_neT (show ¬ (F_206x R c (Int32.ofInt 1)).toInt = (Int32.ofInt (-1)).toInt by omega), pj_cT, pj_b0_geT (show 0 ≤ (F_206x R c (Int32.ofInt 1)).toInt by omega), pj_cT, pj_b0_neF k0, pj_cF]
                  exact .inl ⟨_, (show ((Int8.ofInt (-4)).toInt32).toInt < 0 by omega), rfl, rfl⟩
            rcases hV with v | v
            · rw [pj_rb_t v.1, pj_cT]
              exact key _ (v.2.2.2.2 c.toInt.toNat (by omega)).2.2.2
            · rw [pj_rb_f v.1 rfl, pj_cF]
              exact key _ (v.2.2.2.2 c.toInt.toNat (by omega)).2.2.2
      · have t3 := u2 hx
        have t4 := w2 hx
        rw [pj_b0_neF t3, pj_cF, pj_b0_neF t4, pj_cF]
        exact .inl ⟨_, (show (Int32.ofInt (-1)).toInt < 0 by omega), rfl, rfl⟩
  · have t1 := p2 hb
    have t2 := q2 (by omega)
    rw [pj_b0_eqT t1, pj_cT, pj_b0_eqT t2, pj_cT]
    exact .inl ⟨_, (show (Int32.ofInt (-1)).toInt < 0 by omega), rfl, rfl⟩
/-- the state's numbers in C, R are as in C0, R0 (other cells may be written) -/
theorem mr_Sf {B kc : Int} {C C' R R' : pj_G} (h : mr_S B kc C R) (iC : pj_Inv C) (c0 : pj_fi C' 21 0 = pj_fi C 21 0) (c5 : pj_fi C' 21 5 = pj_fi C 21 5) (c7 : pj_fi C' 21 7 = pj_fi C 21 7) (ca : ∀ a j, 22 ≤ a → a ≤ 26 → pj_ai C' a j = pj_ai C a j) (ra : ∀ j, j ≠ 31 → pj_ai R' 179 j = pj_ai R 179 j) : mr_S B kc C' R' := by
  have r0 : (0 : Int) ≤ (pj_fi C 21 0).toInt ∧ (pj_fi C 21 0).toInt ≤ 6 := iC.2.1 21 0 (0, 6) rfl
  have r5 : (0 : Int) ≤ (pj_fi C 21 5).toInt ∧ (pj_fi C 21 5).toInt ≤ 6 := iC.2.1 21 5 (0, 6) rfl
  unfold mr_S at h ⊢
  rw [c0, c5]
  exact mr_SkR (mr_SkC h ca c7) ra r0.2 r5.2
/-- a tow begins, or doesn't -/
theorem mr_start {B kc : Int} {C R : pj_G} (h : mr_A kc C R) (hRI : pj_RI R) (hS : mr_S B kc C R) (hQ : mr_Q C R) (b c : Int32) : (F_102x C b c).1 = (F_221x R b c).1 ∧ mr_S B kc (F_102x C b c).2 (F_221x R b c).2 := by
  have k0 : (Int32.ofInt 0).toInt = 0 := by decide
  obtain ⟨⟨nb0, nb6⟩, ⟨np0, np6⟩, kc0, kc10⟩ := mr_nb h
  have iC := h.1
  have iR := h.2.1
  rw [F_102x_e, F_221x_e]
  simp only [pj_nm_x, pj_bd_x]
  rcases mr_why h hS b c with ⟨w, hw, e1, e2⟩ | ⟨e1, e2, hb, hc, hf⟩
  · rw [e1, e2, pj_b0_leT (show w.toInt ≤ 0 by omega), pj_cT, pj_b0_geF hw, pj_cF]
    exact ⟨rfl, hS⟩
  · have hh := mr_hrs h hS hQ b c hb hc
    obtain ⟨i1, k1, rg⟩ := fr_101x C iC b c (by omega) (by omega)
    obtain ⟨i2, k2, -⟩ := fr_205x R iR b c (by omega) (by omega) hRI
    obtain ⟨n, hn⟩ : ∃ n : Nat, b.toInt = (n : Int) := ⟨b.toInt.toNat, by omega⟩
    have nn : b.toInt.toNat = n := by omega
    obtain ⟨x0, x1, x2, x3⟩ := mr_ix hn (by omega)
    rw [e1, e2, pj_b0_leF (show 0 < (F_101x C b c).1.toInt by omega), pj_cF, pj_b0_geT (show 0 ≤ (Int32.ofInt 0).toInt by omega), pj_cT, nn, x0, x1]
    refine ⟨hh, ?_⟩
    rw [← hh]
    have h1 : mr_S B kc (F_101x C b c).2 (F_205x R b c).2 := mr_Sf hS iC (k1.1 (21, 0) (by decide)) (k1.1 (21, 5) (by decide)) (k1.1 (21, 7) (by decide)) (fun a j ha hb => k1.2.2 a (fun hm => by
      have z := List.all_eq_true.mp (show kc_101x.2.2.all (fun q => Nat.ble 27 q) = true from rfl) _ hm
      have z : 27 ≤ a := Nat.le_of_ble_eq_true z
      omega) j) (fun j _ => k2.2.2 179 (by decide) j)
    have n21 : pj_fi (F_101x C b c).2 21 0 = pj_fi C 21 0 := k1.1 (21, 0) (by decide)
    have n25 : pj_fi (F_101x C b c).2 21 5 = pj_fi C 21 5 := k1.1 (21, 5) (by decide)
    have r179 : ∀ j, pj_ai (F_205x R b c).2 179 j = pj_ai R 179 j := k2.2.2 179 (by decide)
    unfold mr_S at h1 ⊢
    rw [pj_fi_wa, pj_fi_wa, pj_fi_wa, pj_fi_wa]
    rw [n21, n25] at h1 ⊢
    have h2 := mr_S22 i1.1 i2.1 nb6 np6 h1 n (by omega) c hc (fun j hj ne e => by
      rcases hf with q | q
      · exact q
      · rw [r179] at e
        exact absurd e (q j hj))
    exact mr_S23 (mr_sa i1.1 rfl _ _) (mr_sa i2.1 rfl _ _) nb6 np6 h2 n (by omega) (F_101x C b c).1
