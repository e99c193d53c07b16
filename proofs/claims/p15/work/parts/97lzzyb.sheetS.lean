/-- sheet(), with all SOUND -/
theorem mr_sheet3 {G H : pj_G} (hI : pj_Inv G) (iH : pj_Inv H) (hc : (pj_fi G 21 0).toInt = (pj_fi H 171 5).toInt) (hd : ∀ j : Nat, (j : Int) < (pj_fi G 21 0).toInt → pj_ai G 24 j = pj_ai H 179 (4 * j + 3)) (k n f sp : Int32) : (F_126x G k n f sp).1 = (F_214x H k n f sp).1 ∧ (∀ j : Nat, (j : Int) < (pj_fi G 21 0).toInt → pj_ai (F_126x G k n f sp).2 24 j = pj_ai (F_214x H k n f sp).2 179 (4 * j + 3)) ∧ ∀ j : Nat, j % 4 ≠ 3 ∨ 24 ≤ j → pj_ai (F_214x H k n f sp).2 179 j = pj_ai H 179 j := by
  have k0 : (Int32.ofInt 0).toInt = 0 := by decide
  have k1 : (Int32.ofInt 1).toInt = 1 := by decide
  have k3 : (Int32.ofInt 3).toInt = 3 := by decide
  have k6 : (((Int8.ofInt 6).toInt32)).toInt = 6 := by decide
  have l0 : (Int64.ofNat 0).toInt = 0 := by decide
  have l3 : (Int64.ofInt 3).toInt = 3 := by decide
  have lk : (k.toInt64).toInt = k.toInt := Int32.toInt_toInt64 _
  have rB : (0 : Int) ≤ (pj_fi G 21 0).toInt ∧ (pj_fi G 21 0).toInt ≤ 6 := hI.2.1 21 0 (0, 6) rfl
  obtain ⟨p1, p2⟩ := mr_171 (pj_wv H 171 0 (.int (Int32.ofInt 0))) k.toInt64 (Int64.ofNat 0) (Int64.ofInt 3)
  have hS := mr_sv iH.1 (a := 171) (ci := 12) (k := 0) rfl (Int32.ofInt 0)
  have h5 : pj_fi (pj_wv H 171 0 (.int (Int32.ofInt 0))) 171 5 = pj_fi H 171 5 := pj_fi_wv_ne _ _ _ _ _ _ (by decide)
  have e97 : ∀ (a b c d : Int32), F_97x G a b c d = L_97x G a b c d 7 (Int32.ofInt 0) (Int32.ofInt 0) G := fun a b c d => by rw [F_97x_e]
  have ref : ∀ x y : Int32, x = y → x = y ∧ (∀ j : Nat, (j : Int) < (pj_fi G 21 0).toInt → pj_ai G 24 j = pj_ai (pj_wv H 171 0 (.int (Int32.ofInt 0))) 179 (4 * j + 3)) ∧ ∀ j : Nat, j % 4 ≠ 3 ∨ 24 ≤ j → pj_ai (pj_wv H 171 0 (.int (Int32.ofInt 0))) 179 j = pj_ai H 179 j := fun x y e => ⟨e, fun j hj => by rw [pj_ai_wv]; exact hd j hj, fun j _ => pj_ai_wv _ _ _ _ _ _⟩
  rw [F_126x_e, F_214x_e]
  simp only [pj_nm_x, pj_bd_x, e97]
  by_cases a1 : k.toInt < 0
  · rw [pj_b0_ltT a1, pj_cT, pj_b0_eqT (p2 (by omega)), pj_cT]
    exact ref _ _ rfl
  · rw [pj_b0_ltF (show 0 ≤ k.toInt by omega), pj_cF]
    by_cases a2 : 3 < k.toInt
    · rw [pj_b_gtT (show (Int32.ofInt 3).toInt < k.toInt by omega), pj_cT, pj_b0_eqT (p2 (by omega)), pj_cT]
      exact ref _ _ rfl
    · have p := p1 (by omega)
      rw [pj_b_gtF (show k.toInt ≤ (Int32.ofInt 3).toInt by omega), pj_cF, pj_b0_eqF (by omega), pj_cF]
      by_cases a3 : n.toInt ≤ 6
      · rw [pj_b_leT (show n.toInt ≤ (((Int8.ofInt 6).toInt32)).toInt by omega), pj_cT, pj_cT]
        by_cases a4 : k.toInt = 3
        · rw [pj_b_neF (show k.toInt = (Int32.ofInt 3).toInt by omega), pj_cF, pj_b_eqT (show k.toInt = (Int32.ofInt 3).toInt by omega), pj_cT]
          obtain ⟨z, z2, z3⟩ := (mr_sl G H k (Int32.ofInt 0) (Int32.ofInt 0) (Int32.ofInt 0) k n f sp (fun _ _ => True) (fun b w hb _ => by
            unfold mr_xc mr_xr
            rw [pj_b_geT (show (Int32.ofInt 0).toInt ≤ b.toInt by omega), pj_cT, pj_b_eqT (show k.toInt = (Int32.ofInt 3).toInt by omega), pj_cT]) (fun _ _ _ _ => trivial) 6 7 7 (Int32.ofInt 0) f (Int32.ofInt 0) G (pj_wv H 171 0 (.int (Int32.ofInt 0))) hI.1 hS (by rw [h5]; exact hc) (by omega) (by omega) (by omega) (by omega) (by omega) (by omega) trivial (fun j hj => absurd hj (by omega)))
          rw [pj_b_neF (show k.toInt = (Int32.ofInt 3).toInt by omega), pj_cF] at z
          dsimp only
          exact ⟨z.symm, z2, fun j hj => (z3 j hj).trans (pj_ai_wv _ _ _ _ _ _)⟩
        · rw [pj_b_neT (show ¬ k.toInt = (Int32.ofInt 3).toInt by omega), pj_cT, pj_b_eqF (show ¬ k.toInt = (Int32.ofInt 3).toInt by omega), pj_cF]
          by_cases a5 : 0 ≤ n.toInt
          · rw [pj_b0_geT a5, pj_cT, pj_cT]
            obtain ⟨z, z2, z3⟩ := (mr_sl G H k n f sp k n f sp (fun b w => w = f + b * sp) (fun b w hb hw => by
              unfold mr_xc mr_xr
              rw [hw, pj_b_eqF (show ¬ k.toInt = (Int32.ofInt 3).toInt by omega), pj_cF]
              by_cases q : n.toInt ≤ b.toInt
              · rw [pj_b_geT q, pj_cT, pj_b_ltF q, pj_cF]
              · rw [pj_b_geF (show b.toInt < n.toInt by omega), pj_cF, pj_b_ltT (show b.toInt < n.toInt by omega), pj_cT]) (fun b w _ hw => by rw [hw]; exact mr_rng f b sp) 6 7 7 (Int32.ofInt 0) f (Int32.ofInt 0) G (pj_wv H 171 0 (.int (Int32.ofInt 0))) hI.1 hS (by rw [h5]; exact hc) (by omega) (by omega) (by omega) (by omega) (by omega) (by omega) (by
                show f = f + Int32.ofInt 0 * sp
                rw [show Int32.ofInt 0 = 0 by decide, Int32.zero_mul, Int32.add_zero]) (fun j hj => absurd hj (by omega)))
            rw [pj_b_neT (show ¬ k.toInt = (Int32.ofInt 3).toInt by omega), pj_cT] at z
            dsimp only
            exact ⟨z.symm, z2, fun j hj => (z3 j hj).trans (pj_ai_wv _ _ _ _ _ _)⟩
          · rw [pj_b0_geF (show n.toInt < 0 by omega), pj_cF, pj_cF]
            exact ref _ _ rfl
      · rw [pj_b_leF (show (((Int8.ofInt 6).toInt32)).toInt < n.toInt by omega), pj_cF, pj_cF]
        exact ref _ _ rfl
theorem mr_sheetS {B kc : Int} {C R : pj_G} (h : mr_A kc C R) (hS : mr_S B kc C R) (k n f sp : Int32) : (F_126x C k n f sp).1 = (F_214x R k n f sp).1 ∧ mr_S B kc (F_126x C k n f sp).2 (F_214x R k n f sp).2 := by
  obtain ⟨⟨nb0, nb6⟩, ⟨np0, np6⟩, kc0, kc10⟩ := mr_nb h
  obtain ⟨a, b, c⟩ := mr_sheet3 h.1 h.2.1 h.2.2.1.1 (fun j hj => (hS.1 j hj).2.2.2.trans (by rw [Nat.zero_add])) k n f sp
  obtain ⟨i, kk⟩ := fr_126x C h.1 k n f sp
  refine ⟨a, ?_⟩
  have c0 : pj_fi (F_126x C k n f sp).2 21 0 = pj_fi C 21 0 := kk.1 (21, 0) (by decide)
  have c5 : pj_fi (F_126x C k n f sp).2 21 5 = pj_fi C 21 5 := kk.1 (21, 5) (by decide)
  have c7 : pj_fi (F_126x C k n f sp).2 21 7 = pj_fi C 21 7 := kk.1 (21, 7) (by decide)
  unfold mr_S at hS ⊢
  rw [c0, c5]
  refine ⟨fun j hj => ?_, fun p hp => ?_, ?_, mr_okn hS.2.2.2 (c _ (by omega)) (fun j _ => c _ (by omega)) (fun j _ => c _ (by omega))⟩
  · obtain ⟨h1, h2, h3, h4⟩ := hS.1 j hj
    refine ⟨?_, ?_, ?_, ?_⟩
    · rw [c _ (by omega), kk.2.2 22 (by decide)]
      exact h1
    · rw [c _ (by omega), kk.2.2 23 (by decide)]
      exact h2
    · rw [c _ (by omega), kk.2.2 25 (by decide)]
      exact h3
    · rw [Nat.zero_add]
      exact b j hj
  · rw [c _ (by omega), kk.2.2 26 (by decide)]
    exact hS.2.1 p hp
  · rw [c7, c _ (by omega)]
    exact hS.2.2.1
