theorem pr_th_3 (n : Nat) {C R : pj_G} (dp : Int32) (hd : dp.toInt = 3) (h : pr_S 3 C R) (hn : 5 * ((pj_fi R 171 18).toInt - (pj_fi R 171 17).toInt) < (n : Int) + 1) : pr_X false 0 3 C R (F_64_3x C dp) (pr_T (RRx n) R).1 (pr_T (RRx n) R).2 := by
  have k0 : (Int32.ofInt 0).toInt = 0 := by decide
  have k1 : (Int32.ofInt 1).toInt = 1 := by decide
  have km : (Int32.ofInt (-1)).toInt = -1 := by decide
  have k4 : (Int32.ofInt 4).toInt = 4 := by decide
  have k1000 : ((Int16.ofInt 1000).toInt32).toInt = 1000 := by decide
  obtain ⟨hR, h40, hc, hr, hne⟩ := id h
  have h0 := pr_P0 h (show (0 : Int) ≤ 0 by omega) (by omega)
  have isd := tx_isd hR
  obtain ⟨rd, -, -⟩ := fr_85x C hR.1
  unfold pr_T
  rw [F_64_3x_e]
  simp only [pj_nm_x, pj_bd_x]
  by_cases q : (F_85x C).toInt = 0
  · rw [pj_b0_eqT q, pj_cT, pj_b0_eqT (show (F_184x R).toInt = 0 by omega), pj_cT]
    obtain ⟨i', k', -⟩ := fr_186_s11x R hR.2.1
    obtain ⟨iA, kA, rA, cA, nA, bA⟩ := fr_82x C hR.1 ((Int8.ofInt 40).toInt32) (by decide)
    have k40 : (((Int8.ofInt 40).toInt32)).toInt = 40 := by decide
    have ne' : (pj_fi ((F_186_s11x R).2) 171 19).toInt = 3 := by rw [k'.1 (171, 19) (by decide)]; exact hne
    have nk : ¬ (pj_fi ((F_186_s11x R).2) 171 19).toInt = (Int32.ofInt 4).toInt := by omega
    obtain ⟨iB, kB, rB, ⟨oB, -⟩, -, -⟩ := fr_183x (F_186_s11x R).2 i' ((Int8.ofInt 40).toInt32) (by decide)
    by_cases y6 : (F_82x C ((Int8.ofInt 40).toInt32)).1.toInt = 0
    · have e3 : (pj_fi ((F_82x C ((Int8.ofInt 40).toInt32)).2) 2 3).toInt = (pj_fi C 2 3).toInt := by
        by_cases z : (pj_fi C 2 4).toInt = -1 ∧ (pj_fi C 2 3).toInt < (pj_fi C 2 2).toInt ∧ (pj_ai C 3 (pj_fi C 2 3).toInt.toNat).toInt = (((Int8.ofInt 40).toInt32)).toInt
        · have := (cA z).1
          omega
        · exact (nA z).2
      have hC1 := pr_sC hR iA kA rfl bA e3
      obtain ⟨i, k, -⟩ := fr_84_s8x (F_82x C ((Int8.ofInt 40).toInt32)).2 iA
      have h1 := pr_Pm h0 kA rfl (pj_kpt_r ([], [], []) R) rfl hC1 hne (Int.le_refl _)
      obtain ⟨d, z⟩ := pr_nm hC1
      rw [pj_b0_eqT y6, pj_cT]
      rcases z with ⟨z1, z2, z3, z4, z5, z6, z7⟩ | ⟨z1, z2, z3⟩
      · rw [pj_b_neT (show ¬ (F_84_s8x (F_82x C ((Int8.ofInt 40).toInt32)).2).1.toInt = (Int32.ofInt (-1)).toInt by omega), pj_cT, pj_b0_ltF z1, pj_cF, z4]
        have hP := pr_Pm h1 k rfl k' rfl d ne' (by omega)
        have c1 : (((Int16.ofInt 1000).toInt32) + (F_186_s11x R).1).toInt = 1000 + (F_186_s11x R).1.toInt := by rw [pj_addI (by omega) (by omega), k1000]
        have d4 := d.2.2.2.1
        have h4 := hR.2.2.2.1
        have hA := pr_Pc hP (((Int16.ofInt 1000).toInt32) + (F_186_s11x R).1) (by omega) (by show ((0 : Nat) : Int) + 1 + _ ≤ _; omega)
        have hB := pr_Pr hA (((Int16.ofInt 1000).toInt32) + (F_186_s11x R).1) (by omega) (by show ((0 : Nat) : Int) + 1 + _ ≤ _; omega)
        exact .inl ⟨k1, _, _, hB, show pr_sem false [((Int16.ofInt 1000).toInt32) + (F_186_s11x R).1] [((Int16.ofInt 1000).toInt32) + (F_186_s11x R).1] from pr_sem1 _ (by omega)⟩
      · obtain ⟨sk, -⟩ := tx_skip (pr_sR hR i' k' rfl z3) ((Int8.ofInt 40).toInt32) (by decide)
        rw [pj_b_neF (show (F_84_s8x (F_82x C ((Int8.ofInt 40).toInt32)).2).1.toInt = (Int32.ofInt (-1)).toInt by omega), pj_cF, pj_b0_ltT (show (F_186_s11x R).1.toInt < 0 by omega), pj_cT, pj_b_eqF nk, pj_cF, pj_b0_neF (show (F_183x (F_186_s11x R).2 ((Int8.ofInt 40).toInt32)).1.toInt = 0 by omega), pj_cF]
        have dB := pr_sR d iB kB rfl (by omega)
        obtain ⟨i8, k8, -, e8, -⟩ := fr_81x (F_84_s8x (F_82x C ((Int8.ofInt 40).toInt32)).2).2 i
        exact .inr ⟨k0, pr_E dB i8 iB (by rw [k8.1 (2, 2) (by decide)]) (e8 dB.2.2.1) rfl rfl⟩
    · have z : (pj_fi C 2 4).toInt = -1 ∧ (pj_fi C 2 3).toInt < (pj_fi C 2 2).toInt ∧ (pj_ai C 3 (pj_fi C 2 3).toInt.toNat).toInt = (((Int8.ofInt 40).toInt32)).toInt := by
        by_cases z : (pj_fi C 2 4).toInt = -1 ∧ (pj_fi C 2 3).toInt < (pj_fi C 2 2).toInt ∧ (pj_ai C 3 (pj_fi C 2 3).toInt.toNat).toInt = (((Int8.ofInt 40).toInt32)).toInt
        · exact z
        · exact absurd (nA z).1 y6
      have cur := tx_cur hR (by have := hR.2.2.2.1; have := hR.2.2.2.2.1; omega)
      obtain ⟨-, w⟩ := pr_nm hR
      rcases w with ⟨-, -, -, -, -, -, w7⟩ | ⟨w1, w2, w3⟩
      · exact absurd (show (pj_ai R 180 (pj_fi R 171 17).toInt.toNat).toInt = 40 by omega) w7
      · have hR1 := pr_sR hR i' k' rfl w3
        obtain ⟨sk, dS⟩ := tx_skip hR1 ((Int8.ofInt 40).toInt32) (by decide)
        rw [pj_b0_eqF y6, pj_cF, pj_b0_ltT (show (F_186_s11x R).1.toInt < 0 by omega), pj_cT, pj_b_eqF nk, pj_cF, pj_b0_neT (show ¬ (F_183x (F_186_s11x R).2 ((Int8.ofInt 40).toInt32)).1.toInt = 0 by omega), pj_cT]
        have hP1 := pr_Pm h0 (pj_kpt_r ([], [], []) C) rfl k' rfl hR1 ne' (by omega)
        have neB : (pj_fi ((F_183x (F_186_s11x R).2 ((Int8.ofInt 40).toInt32)).2) 171 19).toInt = 3 := by rw [kB.1 (171, 19) (by decide)]; exact ne'
        have hP2 := pr_Pm hP1 kA rfl kB rfl dS neB (by omega)
        obtain ⟨z0, hz0⟩ : ∃ z : Int32, z = pj_fi (F_183x (F_186_s11x R).2 ((Int8.ofInt 40).toInt32)).2 171 19 + Int32.ofInt 1 := ⟨_, rfl⟩
        rw [← hz0]
        have ez : z0.toInt = 4 := by rw [hz0, pj_addI (by omega) (by omega), k1]; omega
        have iZ : pj_Inv (pj_wv (F_183x (F_186_s11x R).2 ((Int8.ofInt 40).toInt32)).2 171 19 (.int z0)) := pj_Inv_wi iB (ci := 12) rfl (fun q hq => by cases hq; exact ⟨by show (0 : Int) ≤ _; omega, by show _ ≤ (4 : Int); omega⟩)
        have dZ := tx_wvR dS iZ (by decide) (by decide)
        have nZ : (pj_fi (pj_wv (F_183x (F_186_s11x R).2 ((Int8.ofInt 40).toInt32)).2 171 19 (.int z0)) 171 19).toInt = 4 := by rw [pj_fi_wi iB.1 (a := 171) (ci := 12) (k := 19) rfl]; exact ez
        have f17 : pj_fi (pj_wv (F_183x (F_186_s11x R).2 ((Int8.ofInt 40).toInt32)).2 171 19 (.int z0)) 171 17 = pj_fi (F_183x (F_186_s11x R).2 ((Int8.ofInt 40).toInt32)).2 171 17 := pj_fi_wv_ne _ _ _ _ _ _ (by decide)
        have f18 : pj_fi (pj_wv (F_183x (F_186_s11x R).2 ((Int8.ofInt 40).toInt32)).2 171 19 (.int z0)) 171 18 = pj_fi (F_183x (F_186_s11x R).2 ((Int8.ofInt 40).toInt32)).2 171 18 := pj_fi_wv_ne _ _ _ _ _ _ (by decide)
        have f18a : pj_fi (F_183x (F_186_s11x R).2 ((Int8.ofInt 40).toInt32)).2 171 18 = pj_fi (F_186_s11x R).2 171 18 := kB.1 (171, 18) (by decide)
        have f18b : pj_fi (F_186_s11x R).2 171 18 = pj_fi R 171 18 := k'.1 (171, 18) (by decide)
        have hP3 := pr_Pm hP2 (pj_kpt_r ([], [], []) _) rfl (pj_kpt_v (pj_kpt_r ([(171, 19)], [171], []) _) rfl) rfl dZ nZ (by rw [f17]; omega)
        have ed : (dp + Int32.ofInt 1).toInt = 4 := by rw [pj_addI (by omega) (by omega), k1]; omega
        rcases pr_lv0_4 n (Int32.ofInt 0) (dp + Int32.ofInt 1) (Int32.ofInt 0) ed k0 (pr_PS hP3) (by rw [f18, f17, f18a, f18b]; omega) with ⟨u1, cs, rs, hQ, hs⟩ | ⟨u0, hE⟩
        · rw [pj_b0_eqF (show ¬ (RRx n 1 (Int32.ofInt 0) (pj_wv (F_183x (F_186_s11x R).2 ((Int8.ofInt 40).toInt32)).2 171 19 (.int z0))).1.toInt = 0 by omega), pj_cF]
          obtain ⟨⟨j1, j2, j3, j4, j5⟩, ⟨jR, jL, jN⟩, -, -, -, j6, j7⟩ := id hQ
          have hT := pr_Pt (s := 0) hP3 hQ (by omega) (by have q3 := hP3.2.2.2.2.2.1; omega)
          rw [List.nil_append, List.nil_append] at hT
          obtain ⟨i5, k5, -⟩ := fr_83x _ jR.1 ((Int8.ofInt 41).toInt32) ((Int8.ofInt 41).toInt32) (by decide) (by decide)
          obtain ⟨i6, k6, r6, ⟨o6, -⟩, -, -⟩ := fr_183x _ jR.2.1 ((Int8.ofInt 41).toInt32) (by decide)
          rcases tx_col jR ((Int8.ofInt 41).toInt32) (by decide) with ⟨t1, t2⟩ | ⟨t1, t2⟩
          · rw [pj_b0_neT (show ¬ (F_183x (RRx n 1 (Int32.ofInt 0) (pj_wv (F_183x (F_186_s11x R).2 ((Int8.ofInt 40).toInt32)).2 171 19 (.int z0))).2 ((Int8.ofInt 41).toInt32)).1.toInt = 0 by omega), pj_cT]
            have n6 : (pj_fi ((F_183x (RRx n 1 (Int32.ofInt 0) (pj_wv (F_183x (F_186_s11x R).2 ((Int8.ofInt 40).toInt32)).2 171 19 (.int z0))).2 ((Int8.ofInt 41).toInt32)).2) 171 19).toInt = 4 := by rw [k6.1 (171, 19) (by decide)]; exact jN
            have hV := pr_Pm hT k5 rfl k6 rfl t2 n6 (by omega)
            obtain ⟨x0, hx0⟩ : ∃ z : Int32, z = pj_fi (F_183x (RRx n 1 (Int32.ofInt 0) (pj_wv (F_183x (F_186_s11x R).2 ((Int8.ofInt 40).toInt32)).2 171 19 (.int z0))).2 ((Int8.ofInt 41).toInt32)).2 171 19 - Int32.ofInt 1 := ⟨_, rfl⟩
            rw [← hx0]
            have ex : x0.toInt = 3 := by rw [hx0, pj_subI (by omega) (by omega), k1]; omega
            have iX : pj_Inv (pj_wv (F_183x (RRx n 1 (Int32.ofInt 0) (pj_wv (F_183x (F_186_s11x R).2 ((Int8.ofInt 40).toInt32)).2 171 19 (.int z0))).2 ((Int8.ofInt 41).toInt32)).2 171 19 (.int x0)) := pj_Inv_wi i6 (ci := 12) rfl (fun q hq => by cases hq; exact ⟨by show (0 : Int) ≤ _; omega, by show _ ≤ (4 : Int); omega⟩)
            have nX : (pj_fi (pj_wv (F_183x (RRx n 1 (Int32.ofInt 0) (pj_wv (F_183x (F_186_s11x R).2 ((Int8.ofInt 40).toInt32)).2 171 19 (.int z0))).2 ((Int8.ofInt 41).toInt32)).2 171 19 (.int x0)) 171 19).toInt = 3 := by rw [pj_fi_wi i6.1 (a := 171) (ci := 12) (k := 19) rfl]; exact ex
            have g17 : pj_fi (pj_wv (F_183x (RRx n 1 (Int32.ofInt 0) (pj_wv (F_183x (F_186_s11x R).2 ((Int8.ofInt 40).toInt32)).2 171 19 (.int z0))).2 ((Int8.ofInt 41).toInt32)).2 171 19 (.int x0)) 171 17 = pj_fi (F_183x (RRx n 1 (Int32.ofInt 0) (pj_wv (F_183x (F_186_s11x R).2 ((Int8.ofInt 40).toInt32)).2 171 19 (.int z0))).2 ((Int8.ofInt 41).toInt32)).2 171 17 := pj_fi_wv_ne _ _ _ _ _ _ (by decide)
            have hW := pr_Pm hV (pj_kpt_r ([], [], []) _) rfl (pj_kpt_v (pj_kpt_r ([(171, 19)], [171], []) _) rfl) rfl (tx_wvR t2 iX (by decide) (by decide)) nX (by rw [g17]; omega)
            exact .inl ⟨k1, cs, rs, hW, hs⟩
          · rw [pj_b0_neF t1, pj_cF]
            exact .inr ⟨k0, t2⟩
        · rw [pj_b0_eqT u0, pj_cT]
          obtain ⟨i5, -, e5, e6⟩ := tx_dead hE.1 (tx_enb hE) ((Int8.ofInt 41).toInt32) ((Int8.ofInt 41).toInt32) (by decide) (by decide)
          exact .inr ⟨k0, tx_eC hE i5 ⟨e5, e6⟩⟩
  · rw [pj_b0_eqF q, pj_cF, pj_b0_eqF (show ¬ (F_184x R).toInt = 0 by omega), pj_cF]
    obtain ⟨i, k, r86⟩ := fr_86x C hR.1 (Int32.ofInt 3) (by decide)
    obtain ⟨i', k', r187, -, -, g1, g2, g3, g4⟩ := fr_187ex R hR.2.1 (Int32.ofInt 3) (by decide)
    have hd1 := (fr_184x R hR.2.1).2.1 (by omega)
    have ok := g4 hd1
    rcases tx_num hR (Int32.ofInt 3) (by decide) with ⟨e1, e2, d⟩ | ⟨e1, d⟩
    · have g5 := g2 e2
      have hP := pr_Pm h0 k rfl k' rfl d (dp' := 3) (by rw [k'.1 (171, 19) (by decide)]; exact hne) (by omega)
      have d4 := d.2.2.2.1
      have h4 := hR.2.2.2.1
      rw [e1]
      have hA := pr_Pc hP (F_187ex R (Int32.ofInt 3)).1 (by omega) (by show ((0 : Nat) : Int) + 1 + _ ≤ _; omega)
      have hB := pr_Pr hA (F_187ex R (Int32.ofInt 3)).1 (by omega) (by show ((0 : Nat) : Int) + 1 + _ ≤ _; omega)
      exact .inl ⟨k1, _, _, hB, show pr_sem false [(F_187ex R (Int32.ofInt 3)).1] [(F_187ex R (Int32.ofInt 3)).1] from pr_sem1 _ (by omega)⟩
    · exfalso
      omega
theorem pr_sg_3 (G0 : pj_G) (dp : Int32) (hd : dp.toInt = 3) : ∀ (m n fu : Nat) (s : Int) (b : Bool) (v3 v4 : Int32) (C R : pj_G), pr_S 3 C R → (s = 0 ∧ v3.toInt = 0 ∧ b = false ∨ s = 1 ∧ v3.toInt = 1 ∧ b = true) → (pj_fi C 27 3).toInt + s ≤ (pj_fi C 2 3).toInt → 0 ≤ v4.toInt → v4.toInt ≤ (pj_fi C 2 3).toInt → (pj_fi R 171 18).toInt - (pj_fi R 171 17).toInt ≤ (m : Int) → 5 * ((pj_fi R 171 18).toInt - (pj_fi R 171 17).toInt) < (n : Int) → m < fu → pr_X b s 3 C R (L_63_3x G0 dp fu v3 v4 C) (RRx n 0 0 R).1 (RRx n 0 0 R).2 := by
  have k0 : (Int32.ofInt 0).toInt = 0 := by decide
  have k1 : (Int32.ofInt 1).toInt = 1 := by decide
  have k40 : (((Int8.ofInt 40).toInt32)).toInt = 40 := by decide
  have k2000 : ((Int16.ofInt 2000).toInt32).toInt = 2000 := by decide
  have k3000 : ((Int16.ofInt 3000).toInt32).toInt = 3000 := by decide
  intro m
  induction m using Nat.strongRecOn with
  | ind m ih =>
    intro n fu s b v3 v4 C R h hv hD h40 h4 hm hn hfu
    obtain ⟨hR, hl40, hc, hr, hne⟩ := id h
    obtain ⟨a1, a2, a3, a4, a5, a6, a7⟩ := id hR
    obtain ⟨g, rfl⟩ : ∃ q, fu = q + 1 := ⟨fu - 1, by omega⟩
    obtain ⟨n', rfl⟩ : ∃ q, n = q + 1 := ⟨n - 1, by omega⟩
    rw [L_63_3x_s0, RRx_t, pr_199]
    obtain ⟨i', k', r', -, cB, cN⟩ := fr_183x R hR.2.1 ((Int8.ofInt 45).toInt32) (by decide)
    have fin : ∀ C' : pj_G, pr_P s 3 C R C' (F_183x R ((Int8.ofInt 45).toInt32)).2 [] [] → 5 * ((pj_fi R 171 18).toInt - (pj_fi R 171 17).toInt) < (n' : Int) + 1 → (∀ X : pj_G, (pj_fi ((F_183x R ((Int8.ofInt 45).toInt32)).2) 171 17).toInt = (pj_fi R 171 17).toInt → pr_X b s 3 C R (cond (pj_c1 .eq v3 0) (F_64_3x C' dp) (F_60x (F_64_3x C' dp) ((Int16.ofInt 2000).toInt32))) (pr_T (RRx n') (F_183x R ((Int8.ofInt 45).toInt32)).2).1 (pr_T (RRx n') (F_183x R ((Int8.ofInt 45).toInt32)).2).2) := by
      intro C' hP hn' X hat
      have hS := pr_PS hP
      have e18 : pj_fi (F_183x R ((Int8.ofInt 45).toInt32)).2 171 18 = pj_fi R 171 18 := k'.1 (171, 18) (by decide)
      rcases pr_th_3 n' dp hd hS (by rw [e18, hat]; omega) with ⟨y1, cs, rs, hQ, hs⟩ | ⟨y0, hE⟩
      · obtain ⟨⟨j1, j2, j3, j4, j5⟩, -, -, -, -, j6, j7⟩ := id hQ
        obtain ⟨-, ⟨jR, -, -⟩, -⟩ := id hQ
        have jR4 := jR.2.2.2.1
        rcases hv with ⟨s0, v0, b0⟩ | ⟨s0, v0, b0⟩
        · rw [pj_b0_eqT v0, pj_cT]
          have hT := pr_Pt (s := s) hP hQ hD (by show ((0 : Nat) : Int) + _ + _ ≤ _; omega)
          exact .inl ⟨y1, cs, rs, hT, by rw [b0]; exact hs⟩
        · rw [pj_b0_eqF (show ¬ v3.toInt = 0 by omega), pj_cF]
          have hT := pr_Pt (s := s) hP hQ hD (by show ((0 : Nat) : Int) + _ + _ ≤ _; omega)
          have hU := pr_Pc hT ((Int16.ofInt 2000).toInt32) (by omega) (by rw [List.nil_append]; omega)
          exact .inl ⟨y1, cs ++ [(Int16.ofInt 2000).toInt32], rs, hU, by rw [b0]; exact pr_semC hs⟩
      · refine .inr ⟨y0, ?_⟩
        cases pj_c1 .eq v3 0 with
        | true => exact hE
        | false =>
          rw [pj_cF]
          obtain ⟨i6, k6, -⟩ := fr_60x _ hE.1 ((Int16.ofInt 2000).toInt32) (by omega)
          exact tx_eC hE i6 ⟨by rw [k6.1 (2, 4) (by decide)], k6.1 (2, 2) (by decide)⟩
    simp only [pj_nm_x, pj_bd_x]
    have h0 := pr_P0 h (s := s) (by omega) hD
    have ne' : (pj_fi ((F_183x R ((Int8.ofInt 45).toInt32)).2) 171 19).toInt = 3 := by rw [k'.1 (171, 19) (by decide)]; exact hne
    by_cases q40 : 40 ≤ v4.toInt
    · obtain ⟨z1, z2⟩ := cN (by rintro ⟨z, -⟩; omega)
      rw [pj_b_geT (show (((Int8.ofInt 40).toInt32)).toInt ≤ v4.toInt by omega), pj_cT, pj_b0_eqT z1, pj_cT]
      exact fin C (pr_Pm h0 (pj_kpt_r ([], [], []) C) rfl k' rfl (pr_sR hR i' k' rfl z2) ne' (by omega)) (by omega) C z2
    · rw [pj_b_geF (show v4.toInt < (((Int8.ofInt 40).toInt32)).toInt by omega), pj_cF]
      obtain ⟨sk, dS⟩ := tx_skip hR ((Int8.ofInt 45).toInt32) (by decide)
      obtain ⟨i, k, rr, -, -, -⟩ := fr_82x C hR.1 ((Int8.ofInt 45).toInt32) (by decide)
      by_cases y : (F_82x C ((Int8.ofInt 45).toInt32)).1.toInt = 0
      · rw [pj_b0_eqT y, pj_cT, pj_b0_eqT (show (F_183x R ((Int8.ofInt 45).toInt32)).1.toInt = 0 by omega), pj_cT]
        have z2 : (pj_fi ((F_183x R ((Int8.ofInt 45).toInt32)).2) 171 17).toInt = (pj_fi R 171 17).toInt := by
          by_cases z : (pj_fi R 171 17).toInt < (pj_fi R 171 18).toInt ∧ (pj_ai R 180 (pj_fi R 171 17).toInt.toNat).toInt = (((Int8.ofInt 45).toInt32)).toInt
          · have := (cB z).1
            omega
          · exact (cN z).2
        exact fin _ (pr_Pm h0 k rfl k' rfl dS ne' (by omega)) (by omega) C z2
      · rw [pj_b0_eqF y, pj_cF, pj_b0_eqF (show ¬ (F_183x R ((Int8.ofInt 45).toInt32)).1.toInt = 0 by omega), pj_cF]
        have z : (pj_fi R 171 17).toInt < (pj_fi R 171 18).toInt ∧ (pj_ai R 180 (pj_fi R 171 17).toInt.toNat).toInt = (((Int8.ofInt 45).toInt32)).toInt := by
          by_cases z : (pj_fi R 171 17).toInt < (pj_fi R 171 18).toInt ∧ (pj_ai R 180 (pj_fi R 171 17).toInt.toNat).toInt = (((Int8.ofInt 45).toInt32)).toInt
          · exact z
          · have := (cN z).1
            omega
        have z2 := (cB z).2
        have hP := pr_Pm h0 k rfl k' rfl dS ne' (by omega)
        have hS := pr_PS hP
        have e18 : pj_fi (F_183x R ((Int8.ofInt 45).toInt32)).2 171 18 = pj_fi R 171 18 := k'.1 (171, 18) (by decide)
        have e18' : (pj_fi ((F_183x R ((Int8.ofInt 45).toInt32)).2) 171 18).toInt = (pj_fi R 171 18).toInt := by rw [e18]
        have dA := dS.2.2.2.1
        have hSD := hS.2.2.1
        have e27 : pj_fi (F_82x C ((Int8.ofInt 45).toInt32)).2 27 3 = pj_fi C 27 3 := (pr_kC k rfl).1
        have e27' : (pj_fi ((F_82x C ((Int8.ofInt 45).toInt32)).2) 27 3).toInt = (pj_fi C 27 3).toInt := by rw [e27]
        have s4 : (v4 + Int32.ofInt 1).toInt = v4.toInt + 1 := by rw [pj_addI (by omega) (by omega), k1]
        obtain ⟨u1, u2, u3, u4, u5⟩ := pr_fT n' i' (by have := hS.2.2.2.1; omega) (by omega) (by omega)
        have uL : (pj_fi ((RRx n' 0 0 (F_183x R ((Int8.ofInt 45).toInt32)).2).2) 171 27).toInt ≤ 79 := by
          have r9 := (tx_r17 u1).2
          have e270 : pj_fi (F_183x R ((Int8.ofInt 45).toInt32)).2 171 27 = pj_fi R 171 27 := (pr_kR k' rfl).1
          have e27r : (pj_fi ((F_183x R ((Int8.ofInt 45).toInt32)).2) 171 27).toInt = (pj_fi R 171 27).toInt := by rw [e270]
          omega
        have step : ∀ (s' : Int) (b' : Bool) (v' : Int32), b' = !b → (s' = 0 ∧ v'.toInt = 0 ∧ b' = false ∨ s' = 1 ∧ v'.toInt = 1 ∧ b' = true) → s' = 1 - s → pr_X b s 3 C R (L_63_3x G0 dp g v' (v4 + Int32.ofInt 1) (F_82x C ((Int8.ofInt 45).toInt32)).2) (RRx n' 0 0 (F_183x R ((Int8.ofInt 45).toInt32)).2).1 (F_198x (RRx n' 0 0 (F_183x R ((Int8.ofInt 45).toInt32)).2).2 ((Int16.ofInt 3000).toInt32)) := by
          intro s' b' v' hb hv' hs'
          rcases ih (m - 1) (by omega) n' g s' b' v' (v4 + Int32.ofInt 1) _ _ hS hv' (by omega) (by omega) (by omega) (by omega) (by omega) (by omega) with ⟨y1, cs, rs, hQ, hs⟩ | ⟨y0, hE⟩
          · obtain ⟨⟨j1, j2, j3, j4, j5⟩, -, -, -, -, j6, j7⟩ := id hQ
            obtain ⟨-, ⟨jR, -, -⟩, -⟩ := id hQ
            have jR4 := jR.2.2.2.1
            have hT := pr_Pt (s := s) hP hQ hD (by show ((0 : Nat) : Int) + _ + _ ≤ _; omega)
            have hU := pr_Pr hT ((Int16.ofInt 3000).toInt32) (by omega) (by rw [List.nil_append]; omega)
            exact .inl ⟨y1, cs, rs ++ [(Int16.ofInt 3000).toInt32], hU, pr_semR (by rw [← hb]; exact hs)⟩
          · obtain ⟨i8, k8, -⟩ := fr_198x _ u1 ((Int16.ofInt 3000).toInt32) (by omega) uL
            refine .inr ⟨y0, hE.1, i8, ?_, ?_, ?_⟩
            · rw [k8.1 (171, 17) (by decide)]
              exact hE.2.2.1
            · rw [k8.1 (171, 17) (by decide), k8.1 (171, 18) (by decide)]
              exact hE.2.2.2.1
            · rw [k8.1 (171, 18) (by decide)]
              exact hE.2.2.2.2
        rcases hv with ⟨s0, v0, b0⟩ | ⟨s0, v0, b0⟩
        · rw [pj_b0_neF v0, pj_cF]
          exact step 1 true (Int32.ofInt 1) (by rw [b0]; rfl) (.inr ⟨rfl, k1, rfl⟩) (by omega)
        · rw [pj_b0_neT (show ¬ v3.toInt = 0 by omega), pj_cT]
          exact step 0 false (Int32.ofInt 0) (by rw [b0]; rfl) (.inl ⟨rfl, k0, rfl⟩) (by omega)
theorem pr_lv3_3 (n : Nat) (lv dp rk : Int32) (hd : dp.toInt = 3) (hrk : rk.toInt = 3) {C R : pj_G} (h : pr_S 3 C R) (hn : 5 * ((pj_fi R 171 18).toInt - (pj_fi R 171 17).toInt) + 4 - 3 < (n : Int)) : pr_X false 0 3 C R (F_62_3_3x C lv dp) (RRx n 1 rk R).1 (RRx n 1 rk R).2 := by
  have k0 : (Int32.ofInt 0).toInt = 0 := by decide
  have k3 : (Int32.ofInt 3).toInt = 3 := by decide
  obtain ⟨hR, h40, hc, hr, hne⟩ := id h
  obtain ⟨a1, a2, a3, a4, a5, a6, a7⟩ := id hR
  have r9 := tx_r23 a1
  obtain ⟨n', rfl⟩ : ∃ q, n = q + 1 := ⟨n - 1, by omega⟩
  rw [RRx_r, F_200x_e, F_62_3_3x_e, F_63_3x_e, pj_b_neF (show rk.toInt = (Int32.ofInt 3).toInt by omega), pj_cF]
  simp only [pj_nm_x, pj_bd_x]
  exact pr_sg_3 C dp hd 40 n' 41 0 false (Int32.ofInt 0) (Int32.ofInt 0) C R h (.inl ⟨rfl, k0, rfl⟩) (by omega) (by omega) (by omega) (by omega) (by omega) (by decide)
theorem pr_dl2_3 (G0 : pj_G) (lv dp : Int32) {C R : pj_G} (hE : tx_ER C R) (fu : Nat) (v4 v5 : Int32) : tx_ER (L_62_2_3x G0 lv dp (fu + 1) v4 v5 C) R := by
  have km : (Int32.ofInt (-1)).toInt = -1 := by decide
  rw [L_62_2_3x_s0]
  simp only [pj_nm_x, pj_bd_x]
  cases pj_c1 .ge v5 v4 with
  | true => exact hE
  | false =>
    obtain ⟨i, k, rg, c0, c1, cn, cb⟩ := fr_84_s7x C hE.1
    obtain ⟨z1, z2⟩ := cn (by rintro ⟨⟨z, -⟩, -⟩; exact tx_enb hE z)
    rw [pj_cF, pj_b_neF (show (F_84_s7x C).1.toInt = (Int32.ofInt (-1)).toInt by omega), pj_cF]
    exact tx_eC hE i ⟨cb, k.1 (2, 2) (by decide)⟩
/-- one sign of two, and what is behind it -/
theorem pr_on2_3 (n : Nat) (lv dp rk : Int32) (hd : dp.toInt = 3) (hrk : rk.toInt = 2) {C0 R0 C R : pj_G} {cs rs : List Int32} (hP : pr_P 0 3 C0 R0 C R cs rs) (hs : pr_sem false cs rs) (hn : 5 * ((pj_fi R 171 18).toInt - (pj_fi R 171 17).toInt) < (n : Int) + 2 + 2) : ((F_84_s7x C).1.toInt = -1 ∧ (F_186_s14x R).1.toInt < 0 ∧ pr_P 0 3 C0 R0 (F_84_s7x C).2 (F_186_s14x R).2 cs rs ∧ pr_P 0 3 C0 R0 C (F_186_s14x R).2 cs rs) ∨ (¬ (F_84_s7x C).1.toInt = -1 ∧ 0 ≤ (F_186_s14x R).1.toInt ∧ (pj_fi R 171 17).toInt < (pj_fi R 171 18).toInt ∧ ((¬ (RRx n 1 (rk + Int32.ofInt 1) (F_186_s14x R).2).1.toInt = 0 ∧ ∃ cs' rs', pr_sem false cs' rs' ∧ pr_P 0 3 C0 R0 (F_60x (F_62_3_3x (F_84_s7x C).2 (lv + Int32.ofInt 1) dp) (((Int16.ofInt 3000).toInt32) + (F_84_s7x C).1)) (F_198x (RRx n 1 (rk + Int32.ofInt 1) (F_186_s14x R).2).2 (((Int16.ofInt 2000).toInt32) + (F_186_s14x R).1 + Int32.ofInt 5)) cs' rs' ∧ (pj_fi R 171 17).toInt < (pj_fi (F_198x (RRx n 1 (rk + Int32.ofInt 1) (F_186_s14x R).2).2 (((Int16.ofInt 2000).toInt32) + (F_186_s14x R).1 + Int32.ofInt 5)) 171 17).toInt ∧ (pj_fi (F_198x (RRx n 1 (rk + Int32.ofInt 1) (F_186_s14x R).2).2 (((Int16.ofInt 2000).toInt32) + (F_186_s14x R).1 + Int32.ofInt 5)) 171 18).toInt = (pj_fi R 171 18).toInt) ∨ ((RRx n 1 (rk + Int32.ofInt 1) (F_186_s14x R).2).1.toInt = 0 ∧ tx_ER (F_60x (F_62_3_3x (F_84_s7x C).2 (lv + Int32.ofInt 1) dp) (((Int16.ofInt 3000).toInt32) + (F_84_s7x C).1)) (RRx n 1 (rk + Int32.ofInt 1) (F_186_s14x R).2).2))) := by
  have k1 : (Int32.ofInt 1).toInt = 1 := by decide
  have kb : (Int32.ofInt 5).toInt = 5 := by decide
  have k2000 : ((Int16.ofInt 2000).toInt32).toInt = 2000 := by decide
  have k3000 : ((Int16.ofInt 3000).toInt32).toInt = 3000 := by decide
  obtain ⟨⟨b1, b2, b3, b4, b5⟩, ⟨hR, h40, hne⟩, he, ho1, ho2, hg1, hg2⟩ := id hP
  obtain ⟨a1, a2, a3, a4, a5, a6, a7⟩ := id hR
  obtain ⟨i, k, -⟩ := fr_84_s7x C hR.1
  obtain ⟨i', k', ry, -⟩ := fr_186_s14x R hR.2.1
  have ne' : (pj_fi ((F_186_s14x R).2) 171 19).toInt = 3 := by rw [k'.1 (171, 19) (by decide)]; exact hne
  have e18 : pj_fi (F_186_s14x R).2 171 18 = pj_fi R 171 18 := k'.1 (171, 18) (by decide)
  have e18' : (pj_fi ((F_186_s14x R).2) 171 18).toInt = (pj_fi R 171 18).toInt := by rw [e18]
  obtain ⟨d, q⟩ := pr_op7 hR
  rcases q with ⟨q1, q2, q3⟩ | ⟨q1, q2, q3⟩
  · have gr : (42 : Int) ≤ (F_84_s7x C).1.toInt ∧ (F_84_s7x C).1.toInt ≤ 62 ∧ (F_186_s14x R).1.toInt + 5 ≤ 6 := by
      unfold mr_op at q1
      omega
    have d6 := d.2.2.2
    have hlt : (pj_fi R 171 17).toInt < (pj_fi R 171 18).toInt := by omega
    refine .inr ⟨by omega, q2, hlt, ?_⟩
    have hP1 := pr_Pm hP k rfl k' rfl d ne' (by omega)
    have zr : (rk + Int32.ofInt 1).toInt = 3 := by rw [pj_addI (by omega) (by omega), k1]; omega
    have c3 : (((Int16.ofInt 3000).toInt32) + (F_84_s7x C).1).toInt = 3000 + (F_84_s7x C).1.toInt := by rw [pj_addI (by omega) (by omega), k3000]
    have ea : ((F_186_s14x R).1 + Int32.ofInt 5).toInt = (F_186_s14x R).1.toInt + 5 := by rw [pj_addI (by omega) (by omega), kb]
    have r2 : (((Int16.ofInt 2000).toInt32) + (F_186_s14x R).1).toInt = 2000 + (F_186_s14x R).1.toInt := by rw [pj_addI (by omega) (by omega), k2000]
    have r3 : (((Int16.ofInt 2000).toInt32) + (F_186_s14x R).1 + Int32.ofInt 5).toInt = 2000 + ((F_186_s14x R).1 + Int32.ofInt 5).toInt := by rw [pj_addI (x := ((Int16.ofInt 2000).toInt32) + (F_186_s14x R).1) (y := Int32.ofInt 5) (by omega) (by omega), r2, kb, ea]; omega
    rcases pr_lv3_3 n (lv + Int32.ofInt 1) dp (rk + Int32.ofInt 1) hd zr (pr_PS hP1) (by omega) with ⟨y1, c2, r2', hQ, hs2⟩ | ⟨y0, hE⟩
    · refine .inl ⟨by omega, cs ++ c2 ++ [((Int16.ofInt 3000).toInt32) + (F_84_s7x C).1], rs ++ r2' ++ [((Int16.ofInt 2000).toInt32) + (F_186_s14x R).1 + Int32.ofInt 5], pr_semO hs hs2 (by rw [ea]; exact q1) c3 r3, ?_⟩
      obtain ⟨⟨j1, j2, j3, j4, j5⟩, -, -, -, -, j6, j7⟩ := id hQ
      obtain ⟨-, ⟨jR, -, -⟩, -⟩ := id hQ
      have jR4 := jR.2.2.2.1
      have hT := pr_Pt (s := 0) hP1 hQ b3 (by omega)
      have hU := pr_Pc hT (((Int16.ofInt 3000).toInt32) + (F_84_s7x C).1) (by omega) (by rw [List.length_append]; omega)
      have hV := pr_Pr hU (((Int16.ofInt 2000).toInt32) + (F_186_s14x R).1 + Int32.ofInt 5) (by omega) (by rw [List.length_append]; omega)
      obtain ⟨-, ⟨v1, -, -⟩, -⟩ := id hV
      have lr : (pj_fi ((RRx n 1 (rk + Int32.ofInt 1) (F_186_s14x R).2).2) 171 27).toInt ≤ 79 := by
        obtain ⟨n9, r9, f1, f2, f3, f4, -⟩ := hT.2.2.1
        have t7 := hT.2.2.2.2.2.2
        have t9 := tx_r17 jR.2.1
        rw [List.length_append] at f4 t7
        omega
      obtain ⟨-, k8, -⟩ := fr_198x _ jR.2.1 (((Int16.ofInt 2000).toInt32) + (F_186_s14x R).1 + Int32.ofInt 5) (by omega) lr
      have e17 : pj_fi (F_198x (RRx n 1 (rk + Int32.ofInt 1) (F_186_s14x R).2).2 (((Int16.ofInt 2000).toInt32) + (F_186_s14x R).1 + Int32.ofInt 5)) 171 17 = pj_fi (RRx n 1 (rk + Int32.ofInt 1) (F_186_s14x R).2).2 171 17 := k8.1 (171, 17) (by decide)
      have e18a : pj_fi (F_198x (RRx n 1 (rk + Int32.ofInt 1) (F_186_s14x R).2).2 (((Int16.ofInt 2000).toInt32) + (F_186_s14x R).1 + Int32.ofInt 5)) 171 18 = pj_fi (RRx n 1 (rk + Int32.ofInt 1) (F_186_s14x R).2).2 171 18 := k8.1 (171, 18) (by decide)
      have e18b := pr_fR n i' (rk + Int32.ofInt 1) (by omega) (by have := (pr_PS hP1).2.2.2.1; omega) (by omega) (by omega)
      refine ⟨hV, ?_, ?_⟩
      · rw [e17]
        omega
      · rw [e18a, e18b.2]
        exact e18'
    · refine .inr ⟨y0, ?_⟩
      obtain ⟨i6, k6, -⟩ := fr_60x _ hE.1 (((Int16.ofInt 3000).toInt32) + (F_84_s7x C).1) (by omega)
      exact tx_eC hE i6 ⟨by rw [k6.1 (2, 4) (by decide)], k6.1 (2, 2) (by decide)⟩
  · exact .inl ⟨q1, by omega, pr_Pm hP k rfl k' rfl d ne' (by omega), pr_Pm hP (pj_kpt_r ([], [], []) C) rfl k' rfl (pr_sR hR i' k' rfl q3) ne' (by omega)⟩
theorem pr_lp2_3 (G0 R1 : pj_G) (n : Nat) (lv dp rk : Int32) (hd : dp.toInt = 3) (hrk : rk.toInt = 2) : ∀ (m fu fr : Nat) (v4 v5 v2 : Int32) (C0 R0 C R : pj_G) (cs rs : List Int32), pr_P 0 3 C0 R0 C R cs rs → pr_sem false cs rs → v4.toInt = 40 → v2.toInt = 1 → 0 ≤ v5.toInt → v5.toInt ≤ (pj_fi C 2 3).toInt → (pj_fi R 171 18).toInt - (pj_fi R 171 17).toInt ≤ (m : Int) → 5 * ((pj_fi R 171 18).toInt - (pj_fi R 171 17).toInt) < (n : Int) + 2 + 2 → m < fu → m < fr → pr_X false 0 3 C0 R0 (L_62_2_3x G0 lv dp fu v4 v5 C) (L_200x (RRx n) R1 rk fr v2 R).1 (L_200x (RRx n) R1 rk fr v2 R).2 := by
  have k0 : (Int32.ofInt 0).toInt = 0 := by decide
  have k1 : (Int32.ofInt 1).toInt = 1 := by decide
  have km : (Int32.ofInt (-1)).toInt = -1 := by decide
  intro m
  induction m using Nat.strongRecOn with
  | ind m ih =>
    intro fu fr v4 v5 v2 C0 R0 C R cs rs hP hs h4 h2 h50 h5 hm hn hfu hfr
    obtain ⟨g, rfl⟩ : ∃ q, fu = q + 1 := ⟨fu - 1, by omega⟩
    obtain ⟨g2, rfl⟩ : ∃ q, fr = q + 1 := ⟨fr - 1, by omega⟩
    have hR := hP.2.1.1
    obtain ⟨a1, a2, a3, a4, a5, a6, a7⟩ := id hR
    have h40 := hP.2.1.2.1
    rw [L_62_2_3x_s0, L_200x_s0, pj_b0_eqF (show ¬ v2.toInt = 0 by omega), pj_cF, pj_b0_neT (show ¬ rk.toInt = 0 by omega), pj_cT, pj_b_neT (show ¬ rk.toInt = (Int32.ofInt 1).toInt by omega), pj_cT]
    simp only [pj_nm_x, pj_bd_x]
    by_cases q40 : 40 ≤ v5.toInt
    · rw [pj_b_geT (show v4.toInt ≤ v5.toInt by omega), pj_cT]
      rcases pr_on2_3 n lv dp rk hd hrk hP hs hn with ⟨o1, o2, o3, o4⟩ | ⟨-, -, o3, -⟩
      · rw [pj_b0_geF o2, pj_cF]
        exact .inl ⟨k1, cs, rs, o4, hs⟩
      · exfalso
        omega
    · rw [pj_b_geF (show v5.toInt < v4.toInt by omega), pj_cF]
      have s5 : (v5 + Int32.ofInt 1).toInt = v5.toInt + 1 := by rw [pj_addI (by omega) (by omega), k1]
      rcases pr_on2_3 n lv dp rk hd hrk hP hs hn with ⟨o1, o2, o3, o4⟩ | ⟨o1, o2, o3, o4⟩
      · rw [pj_b_neF (show (F_84_s7x C).1.toInt = (Int32.ofInt (-1)).toInt by omega), pj_cF, pj_b0_geF o2, pj_cF]
        exact .inl ⟨k1, cs, rs, o3, hs⟩
      · rw [pj_b_neT (show ¬ (F_84_s7x C).1.toInt = (Int32.ofInt (-1)).toInt by omega), pj_cT, pj_b0_geT o2, pj_cT]
        rcases o4 with ⟨y1, cs', rs', hs', hP', u1, u2⟩ | ⟨y0, hE⟩
        · rw [pj_b0_neT y1, pj_cT]
          have w4 := hP'.2.1.1.2.2.2.1
          exact ih (m - 1) (by omega) g g2 v4 (v5 + Int32.ofInt 1) (Int32.ofInt 1) C0 R0 _ _ cs' rs' hP' hs' h4 k1 (by omega) (by omega) (by omega) (by omega) (by omega) (by omega)
        · rw [pj_b0_neF y0, pj_cF]
          obtain ⟨g3, rfl⟩ : ∃ q, g = q + 1 := ⟨g - 1, by omega⟩
          exact .inr ⟨k0, pr_dl2_3 G0 lv dp hE g3 _ _⟩
theorem pr_lv2_3 (n : Nat) (lv dp rk : Int32) (hd : dp.toInt = 3) (hrk : rk.toInt = 2) {C R : pj_G} (h : pr_S 3 C R) (hn : 5 * ((pj_fi R 171 18).toInt - (pj_fi R 171 17).toInt) + 4 - 2 < (n : Int)) : pr_X false 0 3 C R (F_62_2_3x C lv dp) (RRx n 1 rk R).1 (RRx n 1 rk R).2 := by
  have k0 : (Int32.ofInt 0).toInt = 0 := by decide
  have k1 : (Int32.ofInt 1).toInt = 1 := by decide
  have k3 : (Int32.ofInt 3).toInt = 3 := by decide
  have k40 : (((Int8.ofInt 40).toInt32)).toInt = 40 := by decide
  obtain ⟨hR, h40, hc, hr, hne⟩ := id h
  obtain ⟨a1, a2, a3, a4, a5, a6, a7⟩ := id hR
  have r9 := tx_r23 a1
  obtain ⟨n', rfl⟩ : ∃ q, n = q + 1 := ⟨n - 1, by omega⟩
  have zr : (rk + Int32.ofInt 1).toInt = 3 := by rw [pj_addI (by omega) (by omega), k1]; omega
  rw [RRx_r, F_200x_e, F_62_2_3x_e, pj_b_neT (show ¬ rk.toInt = (Int32.ofInt 3).toInt by omega), pj_cT]
  simp only [pj_nm_x, pj_bd_x]
  rcases pr_lv3_3 n' (lv + Int32.ofInt 1) dp (rk + Int32.ofInt 1) hd zr h (by omega) with ⟨y1, cs, rs, hP, hs⟩ | ⟨y0, hE⟩
  · rw [pj_b0_neT (show ¬ (RRx n' 1 (rk + Int32.ofInt 1) R).1.toInt = 0 by omega), pj_cT]
    have e18b := pr_fR n' a2 (rk + Int32.ofInt 1) (by omega) hr (by omega) (by omega)
    have e18c : (pj_fi ((RRx n' 1 (rk + Int32.ofInt 1) R).2) 171 18).toInt = (pj_fi R 171 18).toInt := by rw [e18b.2]
    have gA := hP.2.2.2.2.2.2
    exact pr_lp2_3 C R n' lv dp rk hd hrk 40 41 201 ((Int8.ofInt 40).toInt32) (Int32.ofInt 0) (Int32.ofInt 1) C R _ _ cs rs hP hs k40 k1 (by omega) (by have := tx_r23 hP.2.1.1.1; omega) (by have := tx_r17 hP.2.1.1.2.1; omega) (by omega) (by decide) (by decide)
  · rw [pj_b0_neF y0, pj_cF]
    exact .inr ⟨k0, pr_dl2_3 C lv dp hE 40 _ _⟩
theorem pr_dl1_3 (G0 : pj_G) (lv dp : Int32) {C R : pj_G} (hE : tx_ER C R) (fu : Nat) (v4 v5 : Int32) : tx_ER (L_62_1_3x G0 lv dp (fu + 1) v4 v5 C) R := by
  have km : (Int32.ofInt (-1)).toInt = -1 := by decide
  rw [L_62_1_3x_s0]
  simp only [pj_nm_x, pj_bd_x]
  cases pj_c1 .ge v5 v4 with
  | true => exact hE
  | false =>
    obtain ⟨i, k, rg, c0, c1, cn, cb⟩ := fr_84_s6x C hE.1
    obtain ⟨z1, z2⟩ := cn (by rintro ⟨⟨z, -⟩, -⟩; exact tx_enb hE z)
    rw [pj_cF, pj_b_neF (show (F_84_s6x C).1.toInt = (Int32.ofInt (-1)).toInt by omega), pj_cF]
    exact tx_eC hE i ⟨cb, k.1 (2, 2) (by decide)⟩
/-- one sign of two, and what is behind it -/
theorem pr_on1_3 (n : Nat) (lv dp rk : Int32) (hd : dp.toInt = 3) (hrk : rk.toInt = 1) {C0 R0 C R : pj_G} {cs rs : List Int32} (hP : pr_P 0 3 C0 R0 C R cs rs) (hs : pr_sem false cs rs) (hn : 5 * ((pj_fi R 171 18).toInt - (pj_fi R 171 17).toInt) < (n : Int) + 1 + 2) : ((F_84_s6x C).1.toInt = -1 ∧ (F_186_s13x R).1.toInt < 0 ∧ pr_P 0 3 C0 R0 (F_84_s6x C).2 (F_186_s13x R).2 cs rs ∧ pr_P 0 3 C0 R0 C (F_186_s13x R).2 cs rs) ∨ (¬ (F_84_s6x C).1.toInt = -1 ∧ 0 ≤ (F_186_s13x R).1.toInt ∧ (pj_fi R 171 17).toInt < (pj_fi R 171 18).toInt ∧ ((¬ (RRx n 1 (rk + Int32.ofInt 1) (F_186_s13x R).2).1.toInt = 0 ∧ ∃ cs' rs', pr_sem false cs' rs' ∧ pr_P 0 3 C0 R0 (F_60x (F_62_2_3x (F_84_s6x C).2 (lv + Int32.ofInt 1) dp) (((Int16.ofInt 3000).toInt32) + (F_84_s6x C).1)) (F_198x (RRx n 1 (rk + Int32.ofInt 1) (F_186_s13x R).2).2 (((Int16.ofInt 2000).toInt32) + (F_186_s13x R).1 + Int32.ofInt 3)) cs' rs' ∧ (pj_fi R 171 17).toInt < (pj_fi (F_198x (RRx n 1 (rk + Int32.ofInt 1) (F_186_s13x R).2).2 (((Int16.ofInt 2000).toInt32) + (F_186_s13x R).1 + Int32.ofInt 3)) 171 17).toInt ∧ (pj_fi (F_198x (RRx n 1 (rk + Int32.ofInt 1) (F_186_s13x R).2).2 (((Int16.ofInt 2000).toInt32) + (F_186_s13x R).1 + Int32.ofInt 3)) 171 18).toInt = (pj_fi R 171 18).toInt) ∨ ((RRx n 1 (rk + Int32.ofInt 1) (F_186_s13x R).2).1.toInt = 0 ∧ tx_ER (F_60x (F_62_2_3x (F_84_s6x C).2 (lv + Int32.ofInt 1) dp) (((Int16.ofInt 3000).toInt32) + (F_84_s6x C).1)) (RRx n 1 (rk + Int32.ofInt 1) (F_186_s13x R).2).2))) := by
  have k1 : (Int32.ofInt 1).toInt = 1 := by decide
  have kb : (Int32.ofInt 3).toInt = 3 := by decide
  have k2000 : ((Int16.ofInt 2000).toInt32).toInt = 2000 := by decide
  have k3000 : ((Int16.ofInt 3000).toInt32).toInt = 3000 := by decide
  obtain ⟨⟨b1, b2, b3, b4, b5⟩, ⟨hR, h40, hne⟩, he, ho1, ho2, hg1, hg2⟩ := id hP
  obtain ⟨a1, a2, a3, a4, a5, a6, a7⟩ := id hR
  obtain ⟨i, k, -⟩ := fr_84_s6x C hR.1
  obtain ⟨i', k', ry, -⟩ := fr_186_s13x R hR.2.1
  have ne' : (pj_fi ((F_186_s13x R).2) 171 19).toInt = 3 := by rw [k'.1 (171, 19) (by decide)]; exact hne
  have e18 : pj_fi (F_186_s13x R).2 171 18 = pj_fi R 171 18 := k'.1 (171, 18) (by decide)
  have e18' : (pj_fi ((F_186_s13x R).2) 171 18).toInt = (pj_fi R 171 18).toInt := by rw [e18]
  obtain ⟨d, q⟩ := pr_op6 hR
  rcases q with ⟨q1, q2, q3⟩ | ⟨q1, q2, q3⟩
  · have gr : (42 : Int) ≤ (F_84_s6x C).1.toInt ∧ (F_84_s6x C).1.toInt ≤ 62 ∧ (F_186_s13x R).1.toInt + 3 ≤ 6 := by
      unfold mr_op at q1
      omega
    have d6 := d.2.2.2
    have hlt : (pj_fi R 171 17).toInt < (pj_fi R 171 18).toInt := by omega
    refine .inr ⟨by omega, q2, hlt, ?_⟩
    have hP1 := pr_Pm hP k rfl k' rfl d ne' (by omega)
    have zr : (rk + Int32.ofInt 1).toInt = 2 := by rw [pj_addI (by omega) (by omega), k1]; omega
    have c3 : (((Int16.ofInt 3000).toInt32) + (F_84_s6x C).1).toInt = 3000 + (F_84_s6x C).1.toInt := by rw [pj_addI (by omega) (by omega), k3000]
    have ea : ((F_186_s13x R).1 + Int32.ofInt 3).toInt = (F_186_s13x R).1.toInt + 3 := by rw [pj_addI (by omega) (by omega), kb]
    have r2 : (((Int16.ofInt 2000).toInt32) + (F_186_s13x R).1).toInt = 2000 + (F_186_s13x R).1.toInt := by rw [pj_addI (by omega) (by omega), k2000]
    have r3 : (((Int16.ofInt 2000).toInt32) + (F_186_s13x R).1 + Int32.ofInt 3).toInt = 2000 + ((F_186_s13x R).1 + Int32.ofInt 3).toInt := by rw [pj_addI (x := ((Int16.ofInt 2000).toInt32) + (F_186_s13x R).1) (y := Int32.ofInt 3) (by omega) (by omega), r2, kb, ea]; omega
    rcases pr_lv2_3 n (lv + Int32.ofInt 1) dp (rk + Int32.ofInt 1) hd zr (pr_PS hP1) (by omega) with ⟨y1, c2, r2', hQ, hs2⟩ | ⟨y0, hE⟩
    · refine .inl ⟨by omega, cs ++ c2 ++ [((Int16.ofInt 3000).toInt32) + (F_84_s6x C).1], rs ++ r2' ++ [((Int16.ofInt 2000).toInt32) + (F_186_s13x R).1 + Int32.ofInt 3], pr_semO hs hs2 (by rw [ea]; exact q1) c3 r3, ?_⟩
      obtain ⟨⟨j1, j2, j3, j4, j5⟩, -, -, -, -, j6, j7⟩ := id hQ
      obtain ⟨-, ⟨jR, -, -⟩, -⟩ := id hQ
      have jR4 := jR.2.2.2.1
      have hT := pr_Pt (s := 0) hP1 hQ b3 (by omega)
      have hU := pr_Pc hT (((Int16.ofInt 3000).toInt32) + (F_84_s6x C).1) (by omega) (by rw [List.length_append]; omega)
      have hV := pr_Pr hU (((Int16.ofInt 2000).toInt32) + (F_186_s13x R).1 + Int32.ofInt 3) (by omega) (by rw [List.length_append]; omega)
      obtain ⟨-, ⟨v1, -, -⟩, -⟩ := id hV
      have lr : (pj_fi ((RRx n 1 (rk + Int32.ofInt 1) (F_186_s13x R).2).2) 171 27).toInt ≤ 79 := by
        obtain ⟨n9, r9, f1, f2, f3, f4, -⟩ := hT.2.2.1
        have t7 := hT.2.2.2.2.2.2
        have t9 := tx_r17 jR.2.1
        rw [List.length_append] at f4 t7
        omega
      obtain ⟨-, k8, -⟩ := fr_198x _ jR.2.1 (((Int16.ofInt 2000).toInt32) + (F_186_s13x R).1 + Int32.ofInt 3) (by omega) lr
      have e17 : pj_fi (F_198x (RRx n 1 (rk + Int32.ofInt 1) (F_186_s13x R).2).2 (((Int16.ofInt 2000).toInt32) + (F_186_s13x R).1 + Int32.ofInt 3)) 171 17 = pj_fi (RRx n 1 (rk + Int32.ofInt 1) (F_186_s13x R).2).2 171 17 := k8.1 (171, 17) (by decide)
      have e18a : pj_fi (F_198x (RRx n 1 (rk + Int32.ofInt 1) (F_186_s13x R).2).2 (((Int16.ofInt 2000).toInt32) + (F_186_s13x R).1 + Int32.ofInt 3)) 171 18 = pj_fi (RRx n 1 (rk + Int32.ofInt 1) (F_186_s13x R).2).2 171 18 := k8.1 (171, 18) (by decide)
      have e18b := pr_fR n i' (rk + Int32.ofInt 1) (by omega) (by have := (pr_PS hP1).2.2.2.1; omega) (by omega) (by omega)
      refine ⟨hV, ?_, ?_⟩
      · rw [e17]
        omega
      · rw [e18a, e18b.2]
        exact e18'
    · refine .inr ⟨y0, ?_⟩
      obtain ⟨i6, k6, -⟩ := fr_60x _ hE.1 (((Int16.ofInt 3000).toInt32) + (F_84_s6x C).1) (by omega)
      exact tx_eC hE i6 ⟨by rw [k6.1 (2, 4) (by decide)], k6.1 (2, 2) (by decide)⟩
  · exact .inl ⟨q1, by omega, pr_Pm hP k rfl k' rfl d ne' (by omega), pr_Pm hP (pj_kpt_r ([], [], []) C) rfl k' rfl (pr_sR hR i' k' rfl q3) ne' (by omega)⟩
theorem pr_lp1_3 (G0 R1 : pj_G) (n : Nat) (lv dp rk : Int32) (hd : dp.toInt = 3) (hrk : rk.toInt = 1) : ∀ (m fu fr : Nat) (v4 v5 v2 : Int32) (C0 R0 C R : pj_G) (cs rs : List Int32), pr_P 0 3 C0 R0 C R cs rs → pr_sem false cs rs → v4.toInt = 40 → v2.toInt = 1 → 0 ≤ v5.toInt → v5.toInt ≤ (pj_fi C 2 3).toInt → (pj_fi R 171 18).toInt - (pj_fi R 171 17).toInt ≤ (m : Int) → 5 * ((pj_fi R 171 18).toInt - (pj_fi R 171 17).toInt) < (n : Int) + 1 + 2 → m < fu → m < fr → pr_X false 0 3 C0 R0 (L_62_1_3x G0 lv dp fu v4 v5 C) (L_200x (RRx n) R1 rk fr v2 R).1 (L_200x (RRx n) R1 rk fr v2 R).2 := by
  have k0 : (Int32.ofInt 0).toInt = 0 := by decide
  have k1 : (Int32.ofInt 1).toInt = 1 := by decide
  have km : (Int32.ofInt (-1)).toInt = -1 := by decide
  intro m
  induction m using Nat.strongRecOn with
  | ind m ih =>
    intro fu fr v4 v5 v2 C0 R0 C R cs rs hP hs h4 h2 h50 h5 hm hn hfu hfr
    obtain ⟨g, rfl⟩ : ∃ q, fu = q + 1 := ⟨fu - 1, by omega⟩
    obtain ⟨g2, rfl⟩ : ∃ q, fr = q + 1 := ⟨fr - 1, by omega⟩
    have hR := hP.2.1.1
    obtain ⟨a1, a2, a3, a4, a5, a6, a7⟩ := id hR
    have h40 := hP.2.1.2.1
    rw [L_62_1_3x_s0, L_200x_s0, pj_b0_eqF (show ¬ v2.toInt = 0 by omega), pj_cF, pj_b0_neT (show ¬ rk.toInt = 0 by omega), pj_cT, pj_b_neF (show rk.toInt = (Int32.ofInt 1).toInt by omega), pj_cF]
    simp only [pj_nm_x, pj_bd_x]
    by_cases q40 : 40 ≤ v5.toInt
    · rw [pj_b_geT (show v4.toInt ≤ v5.toInt by omega), pj_cT]
      rcases pr_on1_3 n lv dp rk hd hrk hP hs hn with ⟨o1, o2, o3, o4⟩ | ⟨-, -, o3, -⟩
      · rw [pj_b0_geF o2, pj_cF]
        exact .inl ⟨k1, cs, rs, o4, hs⟩
      · exfalso
        omega
    · rw [pj_b_geF (show v5.toInt < v4.toInt by omega), pj_cF]
      have s5 : (v5 + Int32.ofInt 1).toInt = v5.toInt + 1 := by rw [pj_addI (by omega) (by omega), k1]
      rcases pr_on1_3 n lv dp rk hd hrk hP hs hn with ⟨o1, o2, o3, o4⟩ | ⟨o1, o2, o3, o4⟩
      · rw [pj_b_neF (show (F_84_s6x C).1.toInt = (Int32.ofInt (-1)).toInt by omega), pj_cF, pj_b0_geF o2, pj_cF]
        exact .inl ⟨k1, cs, rs, o3, hs⟩
      · rw [pj_b_neT (show ¬ (F_84_s6x C).1.toInt = (Int32.ofInt (-1)).toInt by omega), pj_cT, pj_b0_geT o2, pj_cT]
        rcases o4 with ⟨y1, cs', rs', hs', hP', u1, u2⟩ | ⟨y0, hE⟩
        · rw [pj_b0_neT y1, pj_cT]
          have w4 := hP'.2.1.1.2.2.2.1
          exact ih (m - 1) (by omega) g g2 v4 (v5 + Int32.ofInt 1) (Int32.ofInt 1) C0 R0 _ _ cs' rs' hP' hs' h4 k1 (by omega) (by omega) (by omega) (by omega) (by omega) (by omega)
        · rw [pj_b0_neF y0, pj_cF]
          obtain ⟨g3, rfl⟩ : ∃ q, g = q + 1 := ⟨g - 1, by omega⟩
          exact .inr ⟨k0, pr_dl1_3 G0 lv dp hE g3 _ _⟩
theorem pr_lv1_3 (n : Nat) (lv dp rk : Int32) (hd : dp.toInt = 3) (hrk : rk.toInt = 1) {C R : pj_G} (h : pr_S 3 C R) (hn : 5 * ((pj_fi R 171 18).toInt - (pj_fi R 171 17).toInt) + 4 - 1 < (n : Int)) : pr_X false 0 3 C R (F_62_1_3x C lv dp) (RRx n 1 rk R).1 (RRx n 1 rk R).2 := by
  have k0 : (Int32.ofInt 0).toInt = 0 := by decide
  have k1 : (Int32.ofInt 1).toInt = 1 := by decide
  have k3 : (Int32.ofInt 3).toInt = 3 := by decide
  have k40 : (((Int8.ofInt 40).toInt32)).toInt = 40 := by decide
  obtain ⟨hR, h40, hc, hr, hne⟩ := id h
  obtain ⟨a1, a2, a3, a4, a5, a6, a7⟩ := id hR
  have r9 := tx_r23 a1
  obtain ⟨n', rfl⟩ : ∃ q, n = q + 1 := ⟨n - 1, by omega⟩
  have zr : (rk + Int32.ofInt 1).toInt = 2 := by rw [pj_addI (by omega) (by omega), k1]; omega
  rw [RRx_r, F_200x_e, F_62_1_3x_e, pj_b_neT (show ¬ rk.toInt = (Int32.ofInt 3).toInt by omega), pj_cT]
  simp only [pj_nm_x, pj_bd_x]
  rcases pr_lv2_3 n' (lv + Int32.ofInt 1) dp (rk + Int32.ofInt 1) hd zr h (by omega) with ⟨y1, cs, rs, hP, hs⟩ | ⟨y0, hE⟩
  · rw [pj_b0_neT (show ¬ (RRx n' 1 (rk + Int32.ofInt 1) R).1.toInt = 0 by omega), pj_cT]
    have e18b := pr_fR n' a2 (rk + Int32.ofInt 1) (by omega) hr (by omega) (by omega)
    have e18c : (pj_fi ((RRx n' 1 (rk + Int32.ofInt 1) R).2) 171 18).toInt = (pj_fi R 171 18).toInt := by rw [e18b.2]
    have gA := hP.2.2.2.2.2.2
    exact pr_lp1_3 C R n' lv dp rk hd hrk 40 41 201 ((Int8.ofInt 40).toInt32) (Int32.ofInt 0) (Int32.ofInt 1) C R _ _ cs rs hP hs k40 k1 (by omega) (by have := tx_r23 hP.2.1.1.1; omega) (by have := tx_r17 hP.2.1.1.2.1; omega) (by omega) (by decide) (by decide)
  · rw [pj_b0_neF y0, pj_cF]
    exact .inr ⟨k0, pr_dl1_3 C lv dp hE 40 _ _⟩
theorem pr_dl0_3 (G0 : pj_G) (lv dp : Int32) {C R : pj_G} (hE : tx_ER C R) (fu : Nat) (v4 v5 : Int32) : tx_ER (L_62_0_3x G0 lv dp (fu + 1) v4 v5 C) R := by
  have km : (Int32.ofInt (-1)).toInt = -1 := by decide
  rw [L_62_0_3x_s0]
  simp only [pj_nm_x, pj_bd_x]
  cases pj_c1 .ge v5 v4 with
  | true => exact hE
  | false =>
    obtain ⟨i, k, rg, c0, c1, c2, cn, cb⟩ := fr_84_s5x C hE.1
    obtain ⟨z1, z2⟩ := cn (by rintro ⟨⟨z, -⟩, -⟩; exact tx_enb hE z)
    rw [pj_cF, pj_b_neF (show (F_84_s5x C).1.toInt = (Int32.ofInt (-1)).toInt by omega), pj_cF]
    exact tx_eC hE i ⟨cb, k.1 (2, 2) (by decide)⟩
/-- one sign of two, and what is behind it -/
theorem pr_on0_3 (n : Nat) (lv dp rk : Int32) (hd : dp.toInt = 3) (hrk : rk.toInt = 0) {C0 R0 C R : pj_G} {cs rs : List Int32} (hP : pr_P 0 3 C0 R0 C R cs rs) (hs : pr_sem false cs rs) (hn : 5 * ((pj_fi R 171 18).toInt - (pj_fi R 171 17).toInt) < (n : Int) + 0 + 2) : ((F_84_s5x C).1.toInt = -1 ∧ (F_186_s12x R).1.toInt < 0 ∧ pr_P 0 3 C0 R0 (F_84_s5x C).2 (F_186_s12x R).2 cs rs ∧ pr_P 0 3 C0 R0 C (F_186_s12x R).2 cs rs) ∨ (¬ (F_84_s5x C).1.toInt = -1 ∧ 0 ≤ (F_186_s12x R).1.toInt ∧ (pj_fi R 171 17).toInt < (pj_fi R 171 18).toInt ∧ ((¬ (RRx n 1 (rk + Int32.ofInt 1) (F_186_s12x R).2).1.toInt = 0 ∧ ∃ cs' rs', pr_sem false cs' rs' ∧ pr_P 0 3 C0 R0 (F_60x (F_62_1_3x (F_84_s5x C).2 (lv + Int32.ofInt 1) dp) (((Int16.ofInt 3000).toInt32) + (F_84_s5x C).1)) (F_198x (RRx n 1 (rk + Int32.ofInt 1) (F_186_s12x R).2).2 (((Int16.ofInt 2000).toInt32) + (F_186_s12x R).1 + Int32.ofInt 0)) cs' rs' ∧ (pj_fi R 171 17).toInt < (pj_fi (F_198x (RRx n 1 (rk + Int32.ofInt 1) (F_186_s12x R).2).2 (((Int16.ofInt 2000).toInt32) + (F_186_s12x R).1 + Int32.ofInt 0)) 171 17).toInt ∧ (pj_fi (F_198x (RRx n 1 (rk + Int32.ofInt 1) (F_186_s12x R).2).2 (((Int16.ofInt 2000).toInt32) + (F_186_s12x R).1 + Int32.ofInt 0)) 171 18).toInt = (pj_fi R 171 18).toInt) ∨ ((RRx n 1 (rk + Int32.ofInt 1) (F_186_s12x R).2).1.toInt = 0 ∧ tx_ER (F_60x (F_62_1_3x (F_84_s5x C).2 (lv + Int32.ofInt 1) dp) (((Int16.ofInt 3000).toInt32) + (F_84_s5x C).1)) (RRx n 1 (rk + Int32.ofInt 1) (F_186_s12x R).2).2))) := by
  have k1 : (Int32.ofInt 1).toInt = 1 := by decide
  have kb : (Int32.ofInt 0).toInt = 0 := by decide
  have k2000 : ((Int16.ofInt 2000).toInt32).toInt = 2000 := by decide
  have k3000 : ((Int16.ofInt 3000).toInt32).toInt = 3000 := by decide
  obtain ⟨⟨b1, b2, b3, b4, b5⟩, ⟨hR, h40, hne⟩, he, ho1, ho2, hg1, hg2⟩ := id hP
  obtain ⟨a1, a2, a3, a4, a5, a6, a7⟩ := id hR
  obtain ⟨i, k, -⟩ := fr_84_s5x C hR.1
  obtain ⟨i', k', ry, -⟩ := fr_186_s12x R hR.2.1
  have ne' : (pj_fi ((F_186_s12x R).2) 171 19).toInt = 3 := by rw [k'.1 (171, 19) (by decide)]; exact hne
  have e18 : pj_fi (F_186_s12x R).2 171 18 = pj_fi R 171 18 := k'.1 (171, 18) (by decide)
  have e18' : (pj_fi ((F_186_s12x R).2) 171 18).toInt = (pj_fi R 171 18).toInt := by rw [e18]
  obtain ⟨d, q⟩ := pr_op5 hR
  rcases q with ⟨q1, q2, q3⟩ | ⟨q1, q2, q3⟩
  · have gr : (42 : Int) ≤ (F_84_s5x C).1.toInt ∧ (F_84_s5x C).1.toInt ≤ 62 ∧ (F_186_s12x R).1.toInt + 0 ≤ 6 := by
      unfold mr_op at q1
      omega
    have d6 := d.2.2.2
    have hlt : (pj_fi R 171 17).toInt < (pj_fi R 171 18).toInt := by omega
    refine .inr ⟨by omega, q2, hlt, ?_⟩
    have hP1 := pr_Pm hP k rfl k' rfl d ne' (by omega)
    have zr : (rk + Int32.ofInt 1).toInt = 1 := by rw [pj_addI (by omega) (by omega), k1]; omega
    have c3 : (((Int16.ofInt 3000).toInt32) + (F_84_s5x C).1).toInt = 3000 + (F_84_s5x C).1.toInt := by rw [pj_addI (by omega) (by omega), k3000]
    have ea : ((F_186_s12x R).1 + Int32.ofInt 0).toInt = (F_186_s12x R).1.toInt + 0 := by rw [pj_addI (by omega) (by omega), kb]
    have r2 : (((Int16.ofInt 2000).toInt32) + (F_186_s12x R).1).toInt = 2000 + (F_186_s12x R).1.toInt := by rw [pj_addI (by omega) (by omega), k2000]
    have r3 : (((Int16.ofInt 2000).toInt32) + (F_186_s12x R).1 + Int32.ofInt 0).toInt = 2000 + ((F_186_s12x R).1 + Int32.ofInt 0).toInt := by rw [pj_addI (x := ((Int16.ofInt 2000).toInt32) + (F_186_s12x R).1) (y := Int32.ofInt 0) (by omega) (by omega), r2, kb, ea]; omega
    rcases pr_lv1_3 n (lv + Int32.ofInt 1) dp (rk + Int32.ofInt 1) hd zr (pr_PS hP1) (by omega) with ⟨y1, c2, r2', hQ, hs2⟩ | ⟨y0, hE⟩
    · refine .inl ⟨by omega, cs ++ c2 ++ [((Int16.ofInt 3000).toInt32) + (F_84_s5x C).1], rs ++ r2' ++ [((Int16.ofInt 2000).toInt32) + (F_186_s12x R).1 + Int32.ofInt 0], pr_semO hs hs2 (by rw [ea]; exact q1) c3 r3, ?_⟩
      obtain ⟨⟨j1, j2, j3, j4, j5⟩, -, -, -, -, j6, j7⟩ := id hQ
      obtain ⟨-, ⟨jR, -, -⟩, -⟩ := id hQ
      have jR4 := jR.2.2.2.1
      have hT := pr_Pt (s := 0) hP1 hQ b3 (by omega)
      have hU := pr_Pc hT (((Int16.ofInt 3000).toInt32) + (F_84_s5x C).1) (by omega) (by rw [List.length_append]; omega)
      have hV := pr_Pr hU (((Int16.ofInt 2000).toInt32) + (F_186_s12x R).1 + Int32.ofInt 0) (by omega) (by rw [List.length_append]; omega)
      obtain ⟨-, ⟨v1, -, -⟩, -⟩ := id hV
      have lr : (pj_fi ((RRx n 1 (rk + Int32.ofInt 1) (F_186_s12x R).2).2) 171 27).toInt ≤ 79 := by
        obtain ⟨n9, r9, f1, f2, f3, f4, -⟩ := hT.2.2.1
        have t7 := hT.2.2.2.2.2.2
        have t9 := tx_r17 jR.2.1
        rw [List.length_append] at f4 t7
        omega
      obtain ⟨-, k8, -⟩ := fr_198x _ jR.2.1 (((Int16.ofInt 2000).toInt32) + (F_186_s12x R).1 + Int32.ofInt 0) (by omega) lr
      have e17 : pj_fi (F_198x (RRx n 1 (rk + Int32.ofInt 1) (F_186_s12x R).2).2 (((Int16.ofInt 2000).toInt32) + (F_186_s12x R).1 + Int32.ofInt 0)) 171 17 = pj_fi (RRx n 1 (rk + Int32.ofInt 1) (F_186_s12x R).2).2 171 17 := k8.1 (171, 17) (by decide)
      have e18a : pj_fi (F_198x (RRx n 1 (rk + Int32.ofInt 1) (F_186_s12x R).2).2 (((Int16.ofInt 2000).toInt32) + (F_186_s12x R).1 + Int32.ofInt 0)) 171 18 = pj_fi (RRx n 1 (rk + Int32.ofInt 1) (F_186_s12x R).2).2 171 18 := k8.1 (171, 18) (by decide)
      have e18b := pr_fR n i' (rk + Int32.ofInt 1) (by omega) (by have := (pr_PS hP1).2.2.2.1; omega) (by omega) (by omega)
      refine ⟨hV, ?_, ?_⟩
      · rw [e17]
        omega
      · rw [e18a, e18b.2]
        exact e18'
    · refine .inr ⟨y0, ?_⟩
      obtain ⟨i6, k6, -⟩ := fr_60x _ hE.1 (((Int16.ofInt 3000).toInt32) + (F_84_s5x C).1) (by omega)
      exact tx_eC hE i6 ⟨by rw [k6.1 (2, 4) (by decide)], k6.1 (2, 2) (by decide)⟩
  · exact .inl ⟨q1, by omega, pr_Pm hP k rfl k' rfl d ne' (by omega), pr_Pm hP (pj_kpt_r ([], [], []) C) rfl k' rfl (pr_sR hR i' k' rfl q3) ne' (by omega)⟩

theorem pr_lv0_3 (n : Nat) (lv dp rk : Int32) (hd : dp.toInt = 3) (hrk : rk.toInt = 0) {C R : pj_G} (h : pr_S 3 C R) (hn : 5 * ((pj_fi R 171 18).toInt - (pj_fi R 171 17).toInt) + 4 - 0 < (n : Int)) : pr_X false 0 3 C R (F_62_0_3x C lv dp) (RRx n 1 rk R).1 (RRx n 1 rk R).2 := by
  have k0 : (Int32.ofInt 0).toInt = 0 := by decide
  have k1 : (Int32.ofInt 1).toInt = 1 := by decide
  have k3 : (Int32.ofInt 3).toInt = 3 := by decide
  have k40 : (((Int8.ofInt 40).toInt32)).toInt = 40 := by decide
  obtain ⟨hR, h40, hc, hr, hne⟩ := id h
  obtain ⟨a1, a2, a3, a4, a5, a6, a7⟩ := id hR
  have r9 := tx_r23 a1
  obtain ⟨n', rfl⟩ : ∃ q, n = q + 1 := ⟨n - 1, by omega⟩
  have zr : (rk + Int32.ofInt 1).toInt = 1 := by rw [pj_addI (by omega) (by omega), k1]; omega
  rw [RRx_r, F_200x_e, F_62_0_3x_e, pj_b_neT (show ¬ rk.toInt = (Int32.ofInt 3).toInt by omega), pj_cT]
  simp only [pj_nm_x, pj_bd_x]
  rcases pr_lv1_3 n' (lv + Int32.ofInt 1) dp (rk + Int32.ofInt 1) hd zr h (by omega) with ⟨y1, cs, rs, hP, hs⟩ | ⟨y0, hE⟩
  · rw [pj_b0_neT (show ¬ (RRx n' 1 (rk + Int32.ofInt 1) R).1.toInt = 0 by omega), pj_cT]
    have e18b := pr_fR n' a2 (rk + Int32.ofInt 1) (by omega) hr (by omega) (by omega)
    have e18c : (pj_fi ((RRx n' 1 (rk + Int32.ofInt 1) R).2) 171 18).toInt = (pj_fi R 171 18).toInt := by rw [e18b.2]
    have gA := hP.2.2.2.2.2.2
    rw [L_62_0_3x_s0 C lv dp 40, L_200x_s0 (RRx n') R rk 200, pj_b0_eqF (show ¬ (Int32.ofInt 1).toInt = 0 by omega), pj_cF, pj_b0_neF hrk, pj_cF, pj_b_geF (show (Int32.ofInt 0).toInt < (Int32.ofInt 1).toInt by omega), pj_cF]
    simp only [pj_nm_x, pj_bd_x]
    have km : (Int32.ofInt (-1)).toInt = -1 := by decide
    rcases pr_on0_3 n' lv dp rk hd hrk hP hs (by omega) with ⟨o1, o2, o3, o4⟩ | ⟨o1, o2, o3, o4⟩
    · rw [pj_b_neF (show (F_84_s5x (F_62_1_3x C (lv + Int32.ofInt 1) dp)).1.toInt = (Int32.ofInt (-1)).toInt by omega), pj_cF, pj_b0_geF o2, pj_cF]
      exact .inl ⟨k1, cs, rs, o3, hs⟩
    · rw [pj_b_neT (show ¬ (F_84_s5x (F_62_1_3x C (lv + Int32.ofInt 1) dp)).1.toInt = (Int32.ofInt (-1)).toInt by omega), pj_cT, pj_b0_geT o2, pj_cT]
      have s5 : (Int32.ofInt 0 + Int32.ofInt 1).toInt = 1 := by decide
      rcases o4 with ⟨y2, cs', rs', hs', hP', u1, u2⟩ | ⟨y0, hE⟩
      · rw [pj_b0_neT y2, pj_cT, L_62_0_3x_s0 C lv dp 39, L_200x_s0 (RRx n') R rk 199, pj_b0_eqT k0, pj_cT, pj_b_geT (show (Int32.ofInt 1).toInt ≤ (Int32.ofInt 0 + Int32.ofInt 1).toInt by omega), pj_cT]
        exact .inl ⟨k1, cs', rs', hP', hs'⟩
      · rw [pj_b0_neF y0, pj_cF]
        exact .inr ⟨k0, pr_dl0_3 C lv dp hE 39 _ _⟩
  · rw [pj_b0_neF y0, pj_cF]
    exact .inr ⟨k0, pr_dl0_3 C lv dp hE 40 _ _⟩
