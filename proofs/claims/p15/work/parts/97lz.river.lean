/-! RIVER ANSWERS THE SAME -/
theorem tx_river {G : pj_G} (hI : pj_Inv G) (hs : (pj_fi G 2 1).toInt = (pj_fi G 171 16).toInt) (ht : ∀ j : Nat, (j : Int) < (pj_fi G 2 1).toInt → pj_ai G 3 j = pj_ai G 180 j) : (F_119tx G).1 = (F_192tx (F_119tx G).2).1 := by
  have k72 : (((Int8.ofInt 72).toInt32)).toInt = 72 := by decide
  have k0 : (Int32.ofInt 0).toInt = 0 := by decide
  obtain ⟨iH, kH, -⟩ := fr_119tx G hI
  have t16 : pj_fi (F_119tx G).2 171 16 = pj_fi G 171 16 := kH.1 (171, 16) (by decide)
  have a180 : ∀ j, pj_ai (F_119tx G).2 180 j = pj_ai G 180 j := fun j => kH.2.2 180 (by decide) j
  clear kH
  generalize hH : (F_119tx G).2 = H at *
  clear hH
  have i0 : pj_Inv (pj_wv H 171 0 (.int (Int32.ofInt 0))) := pj_Inv_wi iH (ci := 12) rfl (fun q hq => by cases hq)
  obtain ⟨i1, k1, r1, ⟨⟨x17, x18, x19⟩, x16⟩, y1, z1, w1, w2⟩ := fr_182etx (pj_wv H 171 0 (.int (Int32.ofInt 0))) i0 ((Int8.ofInt 72).toInt32) (by omega)
  have e16 : (pj_fi (pj_wv H 171 0 (.int (Int32.ofInt 0))) 171 16).toInt = (pj_fi G 2 1).toInt := by rw [pj_fi_wv_ne _ _ _ _ _ _ (by decide), t16]; exact hs.symm
  have b180 : ∀ j, pj_ai (F_182etx (pj_wv H 171 0 (.int (Int32.ofInt 0))) ((Int8.ofInt 72).toInt32)).2 180 j = pj_ai G 180 j := fun j => by rw [k1.2.2 180 (by decide) j, pj_ai_wv, a180]
  obtain ⟨iC, kC, c3, c4, l1, l2⟩ := fr_79x G hI ((Int8.ofInt 72).toInt32) (by omega)
  have rS : (0 : Int) ≤ (pj_fi G 2 1).toInt ∧ (pj_fi G 2 1).toInt ≤ 80 := hI.2.1 2 1 (0, 80) rfl
  have sz : pj_fi (F_79x G ((Int8.ofInt 72).toInt32)) 2 1 = pj_fi G 2 1 := kC.1 (2, 1) (by decide)
  have eR : F_192tx H = cond (pj_c1 .le (Int32.ofInt 2 + (F_186_s10x (pj_wv (F_182etx (pj_wv H 171 0 (.int (Int32.ofInt 0))) ((Int8.ofInt 72).toInt32)).2 171 22 (.int (Int32.ofInt 0)))).1) (Int32.ofInt 1)) (L_192tx H 2001 0 (F_182etx (pj_wv H 171 0 (.int (Int32.ofInt 0))) ((Int8.ofInt 72).toInt32)).1 (Int32.ofInt 0) 0 0 (pj_wv (F_186_s10x (pj_wv (F_182etx (pj_wv H 171 0 (.int (Int32.ofInt 0))) ((Int8.ofInt 72).toInt32)).2 171 22 (.int (Int32.ofInt 0)))).2 171 21 (.int (Int32.ofInt 2 + (F_186_s10x (pj_wv (F_182etx (pj_wv H 171 0 (.int (Int32.ofInt 0))) ((Int8.ofInt 72).toInt32)).2 171 22 (.int (Int32.ofInt 0)))).1)))) (L_192tx H 2001 0 (F_182etx (pj_wv H 171 0 (.int (Int32.ofInt 0))) ((Int8.ofInt 72).toInt32)).1 (Int32.ofInt 1) 0 0 (pj_wv (F_186_s10x (pj_wv (F_182etx (pj_wv H 171 0 (.int (Int32.ofInt 0))) ((Int8.ofInt 72).toInt32)).2 171 22 (.int (Int32.ofInt 0)))).2 171 21 (.int (Int32.ofInt 2 + (F_186_s10x (pj_wv (F_182etx (pj_wv H 171 0 (.int (Int32.ofInt 0))) ((Int8.ofInt 72).toInt32)).2 171 22 (.int (Int32.ofInt 0)))).1)))) := by
    rw [F_192tx_e]
    simp only [pj_nm_x, pj_bd_x]
  rw [eR, F_119tx_e]
  clear eR
  generalize (F_182etx (pj_wv H 171 0 (.int (Int32.ofInt 0))) ((Int8.ofInt 72).toInt32)).2 = R1 at *
  generalize (F_182etx (pj_wv H 171 0 (.int (Int32.ofInt 0))) ((Int8.ofInt 72).toInt32)).1 = n at *
  have h0 : tx_RD (F_79x G ((Int8.ofInt 72).toInt32)) R1 := ⟨iC, i1, c4, by omega, by omega, by omega, fun j hj => by rw [kC.2.2 3 (by decide) j, b180]; exact ht j (by omega)⟩
  have i22 := tx_i22 i1 (Int32.ofInt 0) (by omega)
  have h1 := tx_wvR h0 i22 (by decide) (by decide)
  have m22 : (pj_fi (pj_wv R1 171 22 (.int (Int32.ofInt 0))) 171 22).toInt = 0 := by rw [pj_fi_wi i1.1 (ci := 12) rfl _, k0]
  have hn : (pj_fi (F_79x G ((Int8.ofInt 72).toInt32)) 2 1).toInt = n.toInt := by rw [sz]; omega
  rw [pj_nm_e]
  obtain ⟨fs, v, hg, hv, hok, -⟩ := pj_kd_s iC.1 (show pj_kd 6 10 1 = some [7, 14] from rfl)
  obtain ⟨b, rfl, hb⟩ := pj_vok_r (by decide) (by decide) hok
  have fv : pj_fv (F_79x G ((Int8.ofInt 72).toInt32)) 6 1 = some (.ref b) := by
    unfold pj_fv
    rw [hg]
    exact hv
  rcases tx_rk2 hb with rfl | rfl
  · obtain ⟨g, is, R', hg', -, e, st⟩ := tx_rd_7 h1 n m22 H
    rw [e, pj_rb_t fv, pj_cT, pj_nm_e]
    exact tx_fin_7 H iC fv g hg' n is (by omega) hn (by omega) (by omega) (st.imp (fun q => ⟨q.1, q.2.1, q.2.2.1⟩) id)
  · obtain ⟨g, is, R', hg', -, e, st⟩ := tx_rd_14 h1 n m22 H
    rw [e, pj_rb_f fv rfl, pj_cF, pj_nm_e]
    exact tx_fin_14 H iC fv g hg' n is (by omega) hn (by omega) (by omega) (st.imp (fun q => ⟨q.1, q.2.1, q.2.2.1⟩) id)
