/-- noted, wherever the answers' kind lies -/
theorem mr_noted0 {B kc : Int} {C R : pj_G} (iC : pj_Inv C) (iR : pj_Inv R) (hU15 : (pj_fi R 171 30).toInt ≤ 15) (hS : mr_S B kc C R) (hU : mr_U B kc C R) : mr_S B kc (F_33nx C) (F_215x R) ∧ mr_Up B kc (F_33nx C) (F_215x R) ∧ (∀ k, pj_fi (F_215x R) 171 k = pj_fi R 171 k) ∧ (∀ a j, a ≠ 186 → pj_ai (F_215x R) a j = pj_ai R a j) := by
  have k0 : (Int32.ofInt 0).toInt = 0 := by decide
  have r1 : (0 : Int) ≤ (pj_fi C 53 1).toInt ∧ (pj_fi C 53 1).toInt ≤ 15 := iC.2.1 53 1 (0, 15) rfl
  have r0 : (0 : Int) ≤ (pj_fi R 171 30).toInt ∧ (pj_fi R 171 30).toInt ≤ 16 := iR.2.1 171 30 (0, 16) rfl
  have rb : (0 : Int) ≤ (pj_fi C 21 0).toInt ∧ (pj_fi C 21 0).toInt ≤ 6 := iC.2.1 21 0 (0, 6) rfl
  have rp : (0 : Int) ≤ (pj_fi C 21 5).toInt ∧ (pj_fi C 21 5).toInt ≤ 6 := iC.2.1 21 5 (0, 6) rfl
  obtain ⟨n, hn⟩ : ∃ n : Nat, (pj_fi C 53 1).toInt = (n : Int) := ⟨(pj_fi C 53 1).toInt.toNat, by omega⟩
  obtain ⟨m, hm⟩ : ∃ m : Nat, (pj_fi R 171 30).toInt = (m : Int) := ⟨(pj_fi R 171 30).toInt.toNat, by omega⟩
  have eN : F_33nx C = mr_bec (57 + 6 * n) 21 C := mr_note n (by omega) hn
  obtain ⟨V, z1, z2, z3, z4, z5, z6⟩ := mr_usl R (32 * m) 0 32 33 (Int32.ofInt 0) R iR.1 (by omega) (by omega) (by omega) (by omega) (by decide)
  have eP : F_215x R = V := by
    rw [F_215x_e]
    exact z1
  refine ⟨?_, ?_, ?_, ?_⟩
  · rw [eN, eP]
    have f0 : pj_fi (mr_bec (57 + 6 * n) 21 C) 21 0 = pj_fi C 21 0 := mr_bec_f _ _ _ _ _ (by omega)
    have f5 : pj_fi (mr_bec (57 + 6 * n) 21 C) 21 5 = pj_fi C 21 5 := mr_bec_f _ _ _ _ _ (by omega)
    unfold mr_S
    rw [f0, f5]
    exact mr_rowR rb.2 rp.2 (mr_rowu (f := 21) (mr_stk (k := n) (by omega)) mr_st21 (by omega) hS) (fun k hk => z4 179 _ (by decide))
  · rw [eN, eP]
    exact mr_Un iC hS hU n (by omega) hn (by rw [z3]) m hm (fun k hk => z5 k (by omega) hk) (fun j hj => z6 j (by omega))
  · intro k
    rw [eP, z3]
  · intro a j ha
    rw [eP, z4 a j ha]
abbrev md_WA : pj_KT := ([(2, 1), (2, 2), (2, 3), (2, 4), (4, 1), (49, 3)], [2, 3, 4, 5, 49, 50, 51, 52], [3, 5, 50, 51, 52])
abbrev md_WB : pj_KT := ([(171, 0), (171, 16), (171, 17), (171, 18), (171, 19), (171, 39)], [171, 187, 188, 189], [187, 188, 189])
theorem mr_day {B kc : Int} {C R : pj_G} (h : mr_A kc C R) (hRI : pj_RI R) (hB : B + 1980 ≤ 2000000) (hU15 : (pj_fi R 171 30).toInt ≤ 15) (hs : (pj_fi C 2 1).toInt = (pj_fi R 171 16).toInt) (ht : ∀ j : Nat, (j : Int) < (pj_fi C 2 1).toInt → pj_ai C 3 j = pj_ai R 180 j) (hS : mr_S B kc C R) (hU : mr_U B kc C R) (hQ : mr_Q C R) : (F_132nx C).1 = (F_232tx R).1 ∧ mr_S (B + 1980) kc (F_132nx C).2 (F_232tx R).2 ∧ mr_U (B + 1980) kc (F_132nx C).2 (F_232tx R).2 := by
  have k0 : (Int32.ofInt 0).toInt = 0 := by decide
  have k1 : (Int32.ofInt 1).toInt = 1 := by decide
  have km : (Int32.ofInt (-1)).toInt = -1 := by decide
  have k60 : (((Int8.ofInt 60).toInt32)).toInt = 60 := by decide
  have iC := h.1
  have iR := h.2.1
  have i0 : pj_Inv (pj_wv R 171 0 (.int (Int32.ofInt 0))) := pj_Inv_wi iR (ci := 12) rfl (fun q hq => by cases hq)
  obtain ⟨i1, kk1, r1, ⟨⟨x17, x18, x19⟩, x16⟩, y1, z1, w1, w2⟩ := fr_182etx (pj_wv R 171 0 (.int (Int32.ofInt 0))) i0 ((Int8.ofInt 60).toInt32) (by omega)
  have e16 : (pj_fi (pj_wv R 171 0 (.int (Int32.ofInt 0))) 171 16).toInt = (pj_fi C 2 1).toInt := by rw [pj_fi_wv_ne _ _ _ _ _ _ (by decide)]; exact hs.symm
  have b180 : ∀ j, pj_ai (F_182etx (pj_wv R 171 0 (.int (Int32.ofInt 0))) ((Int8.ofInt 60).toInt32)).2 180 j = pj_ai R 180 j := fun j => by rw [kk1.2.2 180 (by decide) j, pj_ai_wv]
  have kR1 : pj_kpt md_WB R (F_182etx (pj_wv R 171 0 (.int (Int32.ofInt 0))) ((Int8.ofInt 60).toInt32)).2 := pj_kpt_t (pj_kpt_v (pj_kpt_r _ _) rfl) (pj_kpt_s kk1 rfl)
  obtain ⟨iA, kA, c3, c4, l1, l2⟩ := fr_79x C iC ((Int8.ofInt 60).toInt32) (by omega)
  have rS : (0 : Int) ≤ (pj_fi C 2 1).toInt ∧ (pj_fi C 2 1).toInt ≤ 80 := iC.2.1 2 1 (0, 80) rfl
  have sz : pj_fi (F_79x C ((Int8.ofInt 60).toInt32)) 2 1 = pj_fi C 2 1 := kA.1 (2, 1) (by decide)
  have kC1 : pj_kpt md_WA C (F_79x C ((Int8.ofInt 60).toInt32)) := pj_kpt_s kA rfl
  rw [F_132nx_e, F_232tx_e]
  simp only [pj_nm_x, pj_bd_x]
  generalize (F_182etx (pj_wv R 171 0 (.int (Int32.ofInt 0))) ((Int8.ofInt 60).toInt32)).2 = R1 at *
  generalize (F_182etx (pj_wv R 171 0 (.int (Int32.ofInt 0))) ((Int8.ofInt 60).toInt32)).1 = n at *
  have hn : (pj_fi (F_79x C ((Int8.ofInt 60).toInt32)) 2 1).toInt = n.toInt := by rw [sz]; omega
  have h0 : tx_RD (F_79x C ((Int8.ofInt 60).toInt32)) R1 := ⟨iA, i1, c4, by omega, by omega, by omega, fun j hj => by rw [kA.2.2 3 (by decide) j, b180]; exact ht j (by omega)⟩
  generalize F_79x C ((Int8.ofInt 60).toInt32) = A at *
  -- acts are read
  have iR2 : pj_Inv (pj_wv R1 171 39 (.int (Int32.ofInt 0))) := pj_Inv_wi i1 (ci := 12) rfl (fun q hq => by cases hq; exact ⟨by show (0 : Int) ≤ _; omega, by show _ ≤ (60 : Int); omega⟩)
  have h1 := tx_wvR h0 iR2 (by decide) (by decide)
  have m39 : (pj_fi (pj_wv R1 171 39 (.int (Int32.ofInt 0))) 171 39).toInt = 0 := by rw [pj_fi_wi i1.1 (a := 171) (ci := 12) (k := 39) rfl _, k0]
  have m17 : (pj_fi (pj_wv R1 171 39 (.int (Int32.ofInt 0))) 171 17).toInt = 0 := by rw [pj_fi_wv_ne _ _ _ _ _ _ (by decide)]; omega
  have kR2 : pj_kpt md_WB R (pj_wv R1 171 39 (.int (Int32.ofInt 0))) := pj_kpt_v kR1 rfl
  generalize pj_wv R1 171 39 (.int (Int32.ofInt 0)) = R2 at *
  obtain ⟨iF, kF⟩ := fr_1x A iA
  have iB : pj_Inv (pj_wv A 49 3 (.int (Int32.ofInt 0))) := pj_Inv_wi iA (ci := 0) rfl (fun q hq => by cases hq; exact ⟨by show (0 : Int) ≤ _; omega, by show _ ≤ (21 : Int); omega⟩)
  have h2 := tx_wvC h1 iB (by decide)
  have n3 : pj_fi (pj_wv A 49 3 (.int (Int32.ofInt 0))) 49 3 = Int32.ofInt 0 := pj_fi_wi iA.1 (a := 49) (ci := 0) (k := 3) rfl _
  have n2 : ∀ k, pj_fi (pj_wv A 49 3 (.int (Int32.ofInt 0))) 2 k = pj_fi A 2 k := fun k => pj_fi_wv_ne _ _ _ _ _ _ (fun z => absurd z.1 (by decide))
  obtain ⟨-, -, pk1, pk2⟩ := fr_80x (pj_wv A 49 3 (.int (Int32.ofInt 0))) iB
  have e1 : F_1x A = cond (pj_c1 .eq (F_80x (pj_wv A 49 3 (.int (Int32.ofInt 0)))) (Int32.ofInt (-1))) (L_1x A 22 (Int32.ofInt 0) (Int32.ofInt 0) (pj_wv A 49 3 (.int (Int32.ofInt 0)))) (L_1x A 22 (Int32.ofInt 1) (Int32.ofInt 0) (pj_wv A 49 3 (.int (Int32.ofInt 0)))) := by
    rw [F_1x_e]
    simp only [pj_nm_x]
  rw [n2, n2, n2] at pk1 pk2
  have r18 : (pj_fi R2 171 18).toInt ≤ 60 := by
    have a5 := h2.2.2.2.2.1
    rw [n2] at a5
    omega
  have beg : ∃ m1 m2 : Int32, F_1x A = L_1x A 22 m1 (Int32.ofInt 0) (pj_wv A 49 3 (.int (Int32.ofInt 0))) ∧ cond (pj_c1 .le n 0) (L_232tx R 263 0 n (Int32.ofInt 1) (Int32.ofInt 0) 0 0 R2) (L_232tx R 263 0 n (Int32.ofInt 1) (Int32.ofInt 1) 0 0 R2) = L_232tx R 263 0 n (Int32.ofInt 1) m2 0 0 R2 ∧ m1.toInt = m2.toInt ∧ (m2.toInt = 0 ∨ m2.toInt = 1) := by
    by_cases hn0 : n.toInt = 0
    · have p := pk2 (by omega)
      exact ⟨Int32.ofInt 0, Int32.ofInt 0, by rw [e1, pj_b_eqT (by omega), pj_cT], by rw [pj_b0_leT (by omega), pj_cT], rfl, .inl k0⟩
    · have p := pk1 (by omega)
      have rt : (0 : Int) ≤ (pj_ai (pj_wv A 49 3 (.int (Int32.ofInt 0))) 3 (pj_fi A 2 3).toInt.toNat).toInt := (iB.2.2.1 3 (80, 0, 255, 0, 0) rfl _ (by show _ < 80; omega)).1
      exact ⟨Int32.ofInt 1, Int32.ofInt 1, by rw [e1, pj_b_eqF (by omega), pj_cF], by rw [pj_b0_leF (by omega), pj_cF], rfl, .inr k1⟩
  obtain ⟨m1, m2, g1, g2, g3, g4⟩ := beg
  rw [g2]
  obtain ⟨is, mo, R3, fr, q1, q2, q3, q4, q5⟩ := md_read A R n 21 22 263 m1 (Int32.ofInt 0) (Int32.ofInt 1) m2 (pj_wv A 49 3 (.int (Int32.ofInt 0))) R2 h2 g3 g4 k1 (by omega) (by omega) (by omega) r18 (fun j hj => absurd hj (by omega)) n3 (by omega) (by omega) (by omega)
  have kR3 : pj_kpt md_WB R R3 := pj_kpt_t kR2 (pj_kpt_s q4 rfl)
  rw [q1, L_232tx_s0, pj_b0_eqT q3, pj_cT]
  simp only [pj_nm_x]
  rw [← g1] at q5
  have kF1 : pj_kpt md_WA C (F_1x A) := pj_kpt_t kC1 (pj_kpt_s kF rfl)
  have s1 : (pj_fi (F_1x A) 2 1).toInt = n.toInt := by rw [show pj_fi (F_1x A) 2 1 = pj_fi A 2 1 from kF.1 (2, 1) (by decide)]; exact hn
  have s2 : (pj_fi (F_1x A) 2 2).toInt = (pj_fi A 2 2).toInt := by rw [show pj_fi (F_1x A) 2 2 = pj_fi A 2 2 from kF.1 (2, 2) (by decide)]
  have i3 : pj_Inv R3 := by
    rcases q5 with ⟨-, q, -⟩ | ⟨-, q⟩
    · exact q.2.1
    · exact q.2.1
  generalize F_1x A = P at *
  obtain ⟨iE, kE, rE, -⟩ := fr_88tx P iF
  have kE1 : pj_kpt md_WA C (F_88tx P).2 := pj_kpt_t kF1 (pj_kpt_s kE rfl)
  have hA := mr_Ak h iE kE1 rfl (kE1.1 (21, 0) (by decide)) (kE1.1 (21, 5) (by decide)) i3 kR3 rfl
  have hS1 : mr_S B kc (F_88tx P).2 R3 := mr_Sf hS iC (kE1.1 (21, 0) (by decide)) (kE1.1 (21, 5) (by decide)) (kE1.1 (21, 7) (by decide)) (fun a j ha hb => kE1.2.2 a (fun hm => by
    rcases List.mem_cons.mp hm with z | hm
    · omega
    rcases List.mem_cons.mp hm with z | hm
    · omega
    rcases List.mem_cons.mp hm with z | hm
    · omega
    rcases List.mem_cons.mp hm with z | hm
    · omega
    rcases List.mem_cons.mp hm with z | hm
    · omega
    cases hm) j) (fun j _ => kR3.2.2 179 (by decide) j)
  have hU1 : mr_U B kc (F_88tx P).2 R3 := mr_Uk hU (mr_cUk kE1 rfl) (mr_rUk kR3 rfl)
  have t15 : (pj_fi R3 171 30).toInt ≤ 15 := by
    rw [show pj_fi R3 171 30 = pj_fi R 171 30 from kR3.1 (171, 30) (by decide)]
    exact hU15
  have hQ1 : mr_Q (F_88tx P).2 R3 := mr_Qk hQ (kE1.1 (27, 1) (by decide)) (kE1.2.1.2 (27, 0) (by decide)) (kE1.2.2 28 (by decide)) (kE1.2.2 29 (by decide)) (kR3.1 (171, 26) (by decide)) (kR3.2.2 182 (by decide))
  have hRI3 : pj_RI R3 := pj_RI_k hRI kR3 rfl
  rcases tx_fault n ((Int8.ofInt 60).toInt32) is (by omega) (by omega) s1 (by omega) (by omega) (by rcases q5 with ⟨q, -⟩ | ⟨q, -⟩ <;> omega) (by
      rcases q5 with ⟨q, d, -⟩ | ⟨q, d⟩
      · exact .inl ⟨q, d⟩
      · exact .inr ⟨q, d⟩) with ⟨f1, f2, f3⟩ | ⟨a1, a2, a3⟩
  · -- told well
    have dat : (pj_fi P 49 3).toInt = (pj_fi R3 171 39).toInt ∧ (pj_fi R3 171 39).toInt ≤ 20 ∧ ∀ j : Nat, (j : Int) < (pj_fi R3 171 39).toInt → md_a P R3 j := by
      rcases q5 with ⟨-, -, q⟩ | ⟨q, -⟩
      · exact q
      · exact absurd f3 (by omega)
    obtain ⟨d1, d2, d3⟩ := dat
    rw [pj_b_eqT (show (F_88tx P).1.toInt = (Int32.ofInt (-1)).toInt by omega), pj_cT, pj_b0_geT (show 0 ≤ (F_189x R3 n ((Int8.ofInt 60).toInt32) is).toInt by omega), pj_cT]
    have k49 : pj_fi (F_88tx P).2 49 3 = pj_fi P 49 3 := kE.1 (49, 3) (by decide)
    have kac : ∀ a, pj_mN [50, 51, 52] a = true → ∀ j, pj_ai (F_88tx P).2 a j = pj_ai P a j := fun a ha j => kE.2.2 a (mr_nA rfl a ha) j
    generalize (F_88tx P).2 = C1 at *
    obtain ⟨hS2, hU2, rf, ra⟩ := mr_noted0 iE i3 t15 hS1 hU1
    obtain ⟨i4, k4, -⟩ := fr_33nx C1 iE
    obtain ⟨i5, k5⟩ := fr_215x R3 i3 t15
    obtain ⟨i6, k6⟩ := fr_224x (F_215x R3) i5
    have c0 : pj_fi (F_33nx C1) 21 0 = pj_fi C1 21 0 := k4.1 (21, 0) (by decide)
    have c5 : pj_fi (F_33nx C1) 21 5 = pj_fi C1 21 5 := k4.1 (21, 5) (by decide)
    have hA2 := mr_Ak (mr_Ak hA i4 k4 rfl c0 c5 i5 k5 rfl) i4 (pj_kpt_r ([], [], []) (F_33nx C1)) rfl rfl rfl i6 k6 rfl
    have hS3 : mr_S B kc (F_33nx C1) (F_224x (F_215x R3)) := mr_Sf hS2 i4 rfl rfl rfl (fun _ _ _ _ => rfl) (fun j _ => k6.2.2 179 (by decide) j)
    have hU3 : mr_Up B kc (F_33nx C1) (F_224x (F_215x R3)) := mr_Upk hU2 ⟨rfl, rfl, rfl, rfl, fun _ _ => ⟨rfl, fun _ _ _ _ => rfl⟩⟩ (mr_rUk k6 rfl)
    have hQ2 : mr_Q (F_33nx C1) (F_224x (F_215x R3)) := mr_Qk hQ1 (k4.1 (27, 1) (by decide)) (k4.2.1.2 (27, 0) (by decide)) (k4.2.2 28 (by decide)) (k4.2.2 29 (by decide)) ((k6.1 (171, 26) (by decide)).trans (rf 26)) (fun j => (k6.2.2 182 (by decide) j).trans (ra 182 j (by decide)))
    have hRI4 : pj_RI (F_224x (F_215x R3)) := pj_RI_k (pj_RI_k hRI3 k5 rfl) k6 rfl
    have e39 : pj_fi (F_224x (F_215x R3)) 171 39 = pj_fi R3 171 39 := (show pj_fi (F_224x (F_215x R3)) 171 39 = pj_fi (F_215x R3) 171 39 from k6.1 (171, 39) (by decide)).trans (rf 39)
    have e30 : pj_fi (F_224x (F_215x R3)) 171 30 = pj_fi R3 171 30 := (show pj_fi (F_224x (F_215x R3)) 171 30 = pj_fi (F_215x R3) 171 30 from k6.1 (171, 30) (by decide)).trans (rf 30)
    have e49 : pj_fi (F_33nx C1) 49 3 = pj_fi C1 49 3 := k4.1 (49, 3) (by decide)
    have dd : ∀ j : Nat, (j : Int) < (pj_fi R3 171 39).toInt → md_a (F_33nx C1) (F_224x (F_215x R3)) j := fun j hj => md_ak (d3 j hj) ((k4.2.2 50 (by decide) j).trans (kac 50 rfl j)) ((k4.2.2 51 (by decide) j).trans (kac 51 rfl j)) ((k4.2.2 52 (by decide) j).trans (kac 52 rfl j)) ((k6.2.2 187 (by decide) j).trans (ra 187 j (by decide))) ((k6.2.2 188 (by decide) j).trans (ra 188 j (by decide))) ((k6.2.2 189 (by decide) j).trans (ra 189 j (by decide)))
    generalize F_224x (F_215x R3) = R4 at *
    generalize F_33nx C1 = C2 at *
    have r39 : (0 : Int) ≤ (pj_fi R3 171 39).toInt ∧ (pj_fi R3 171 39).toInt ≤ 60 := i3.2.1 171 39 (0, 60) rfl
    obtain ⟨N, hN⟩ : ∃ N : Nat, (pj_fi R3 171 39).toInt = (N : Int) := ⟨(pj_fi R3 171 39).toInt.toNat, by omega⟩
    obtain ⟨dn, f, Cd, Rd, b1, b2, b3, b4, b5, b6, b7, b8, b9, b10⟩ := md_run C2 R n is mo (F_189x R3 n ((Int8.ofInt 60).toInt32) is) N (by omega) N 22 fr (Int32.ofInt 0) B C2 R4 hA2 hRI4 (by omega) hS3 hQ2 (by omega) (by rw [e49, k49]; omega) (by rw [e39]; omega) (by omega) (fun j hj => dd j (by omega)) (by omega) (by omega)
    have e3 : F_3x C2 = (dn, Cd) := by
      rw [F_3x_e]
      exact b1
    rw [b2, e3]
    dsimp only
    -- what is told
    have hU4 : mr_Up B kc Cd Rd := mr_Upk hU3 (mr_cUk b9 rfl) (mr_rUk b10 rfl)
    have j0 : pj_Inv (pj_wv Rd 171 1 (.int (Int32.ofInt 0))) := pj_Inv_wi b8 (ci := 12) rfl (fun q hq => by cases hq; exact ⟨by show (0 : Int) ≤ _; omega, by show _ ≤ (24 : Int); omega⟩)
    have r0 : (pj_fi (pj_wv Rd 171 1 (.int (Int32.ofInt 0))) 171 1).toInt = 0 := by rw [pj_fi_wi b8.1 (a := 171) (ci := 12) (k := 1) rfl, k0]
    unfold md_fin md_G
    obtain ⟨j1, u1, u2⟩ := fr_175fx (pj_wv Rd 171 1 (.int (Int32.ofInt 0))) j0 (F_173x (pj_wv Rd 171 1 (.int (Int32.ofInt 0))) f).toInt64 (by omega)
    generalize F_175fx (pj_wv Rd 171 1 (.int (Int32.ofInt 0))) (F_173x (pj_wv Rd 171 1 (.int (Int32.ofInt 0))) f).toInt64 = R5 at *
    obtain ⟨j2, u3, u4⟩ := fr_175fx R5 j1 (pj_fi R5 171 35).toInt64 (by omega)
    generalize F_175fx R5 (pj_fi R5 171 35).toInt64 = R6 at *
    have kT : pj_kpt ([(171, 1)], [171, 172], []) Rd R6 := pj_kpt_t (pj_kpt_t (pj_kpt_v (pj_kpt_r _ _) rfl) (pj_kpt_s u1 rfl)) (pj_kpt_s u3 rfl)
    have hS5 : mr_S (B + 1980) kc Cd R6 := mr_rowB (mr_Sf b6 b7 rfl rfl rfl (fun _ _ _ _ => rfl) (fun j _ => kT.2.2 179 (fun hm => by cases hm) j)) (by omega)
    have hU5 : mr_Up (B + 1980) kc Cd R6 := mr_Upk (mr_UpB hU4 (by omega)) ⟨rfl, rfl, rfl, rfl, fun _ _ => ⟨rfl, fun _ _ _ _ => rfl⟩⟩ (mr_rUk kT rfl)
    have u15 : (pj_fi R6 171 30).toInt ≤ 15 := by
      have e : pj_fi R6 171 30 = pj_fi R4 171 30 := (show pj_fi R6 171 30 = pj_fi Rd 171 30 from kT.1 (171, 30) (by decide)).trans (b10.1 (171, 30) (by decide))
      rw [e, e30]
      exact t15
    have told : ∀ (D : pj_G) (x y : Int64), pj_Inv D → ∀ E : pj_G, mr_S (B + 1980) kc D E ∧ mr_U (B + 1980) kc D E → mr_S (B + 1980) kc (F_56x D x y) E ∧ mr_U (B + 1980) kc (F_56x D x y) E := fun D x y iD E ⟨e1, e2⟩ => by
      obtain ⟨i8, k8⟩ := fr_56x D iD x y
      exact ⟨mr_Sf e1 iD (k8.1 (21, 0) (by decide)) (k8.1 (21, 5) (by decide)) (k8.1 (21, 7) (by decide)) (fun a j _ _ => k8.2.2 a (fun hm => by cases hm) j) (fun _ _ => rfl), mr_Uk e2 (mr_cUk k8 rfl) ⟨rfl, fun _ => rfl⟩⟩
    by_cases q : dn.toInt ≤ 0
    · rw [pj_b0_leT q, pj_cT, pj_cT, mr_34f]
      have ed : dn = Int32.ofInt 0 := Int32.toInt_inj.mp (by omega)
      cases pj_c1 .ge dn (pj_fi Cd 49 3) with
      | true =>
        rw [pj_cT]
        dsimp only
        exact ⟨ed, told Cd _ _ b7 R6 ⟨hS5, hU5.1⟩⟩
      | false =>
        rw [pj_cF]
        dsimp only
        exact ⟨ed, told Cd _ _ b7 R6 ⟨hS5, hU5.1⟩⟩
    · rw [pj_b0_leF (show 0 < dn.toInt by omega), pj_cF, pj_cF]
      have g := mr_held b7 j2 u15 hS5 hU5 dn
      obtain ⟨i7, k7, -⟩ := fr_34nx Cd b7 (Int32.ofInt 1) (by decide)
      have ed := (mr_216 j2 u15 dn).1.symm
      generalize F_34nx Cd (Int32.ofInt 1) = C4 at *
      cases pj_c1 .ge dn (pj_fi C4 49 3) with
      | true =>
        rw [pj_cT]
        dsimp only
        exact ⟨ed, told C4 _ _ i7 _ g⟩
      | false =>
        rw [pj_cF]
        dsimp only
        exact ⟨ed, told C4 _ _ i7 _ g⟩
  · -- a sign that can't stand there
    rw [pj_b_eqF (show ¬ (F_88tx P).1.toInt = (Int32.ofInt (-1)).toInt by omega), pj_cF, pj_b0_geF (show (F_189x R3 n ((Int8.ofInt 60).toInt32) is).toInt < 0 by omega), pj_cF]
    refine ⟨?_, mr_rowB hS1 (by omega), mr_UB hU1 (by omega)⟩
    rw [F_162x_e]
    simp only [pj_nm_x]
    apply Int32.toInt_inj.mp
    rw [pj_subI (by omega) (by omega), km]
    omega
