theorem mr_le0 {a b : Int} (h : a = -1 - b) (h2 : 0 ≤ b) : a ≤ 0 := by omega
theorem mr_161 (G : pj_G) : F_161x G (Int32.ofInt 0) = G ∧ F_161x G (Int32.ofInt 1) = pj_wv G 53 2 (.int (Int32.ofInt 0)) := by
  have e36 : F_36x G = pj_wv G 53 2 (.int (Int32.ofInt 0)) := by
    rw [F_36x_e]
    simp only [pj_nm_x]
  refine ⟨?_, ?_⟩
  · rw [F_161x_e, pj_b0_eqT (show (Int32.ofInt 0).toInt = 0 by decide), pj_cT]
  · rw [F_161x_e, pj_b0_eqF (show ¬ (Int32.ofInt 1).toInt = 0 by decide), pj_cF, pj_nm_e, e36]
theorem mr_fin_r {V : pj_G} (hS : pj_coks pj_tb V.1 = true) : ((pj_fi V 171 22).toInt ≤ 0 → mr_fin V = (pj_fi V 171 22, V)) ∧ (1 ≤ (pj_fi V 171 22).toInt → (mr_fin V).1 = pj_fi V 171 22 ∧ (∀ a j, pj_ai (mr_fin V).2 a j = pj_ai V a j) ∧ (∀ k, k ≠ 30 → k ≠ 7 → pj_fi (mr_fin V).2 171 k = pj_fi V 171 k) ∧ (pj_fi (mr_fin V).2 171 30).toInt = 0 ∧ pj_fi (mr_fin V).2 171 7 = pj_fi V 171 7 + Int32.ofInt 1) := by
  have k0 : (Int32.ofInt 0).toInt = 0 := by decide
  have s1 := mr_sv hS (a := 171) (ci := 12) (k := 30) rfl (Int32.ofInt 0)
  refine ⟨fun h => ?_, fun h => ?_⟩
  · unfold mr_fin
    rw [pj_b0_leT h, pj_cT]
  · have e : mr_fin V = (pj_fi (F_193x V) 171 22, F_193x V) := by
      unfold mr_fin
      rw [pj_b0_leF (show 0 < (pj_fi V 171 22).toInt by omega), pj_cF]
    rw [e, mr_193]
    dsimp only
    refine ⟨?_, fun a j => ?_, fun k n1 n2 => ?_, ?_, ?_⟩
    · rw [pj_fi_wv_ne _ _ _ _ _ _ (by decide), pj_fi_wv_ne _ _ _ _ _ _ (by decide)]
    · rw [pj_ai_wv, pj_ai_wv]
    · rw [pj_fi_wv_ne _ _ _ _ _ _ (by omega), pj_fi_wv_ne _ _ _ _ _ _ (by omega)]
    · rw [pj_fi_wv_ne _ _ _ _ _ _ (by decide), pj_fi_wi hS (a := 171) (ci := 12) (k := 30) rfl]
      exact k0
    · rw [pj_fi_wi s1 (a := 171) (ci := 12) (k := 7) rfl]
/-- the reference's row behind bridges(): BRIDGES that were there are as they were, the new ones lie nowhere -/
def mr_nb3 (G H K E : pj_G) : Prop := (∀ j : Nat, 24 ≤ j → pj_ai E 179 j = pj_ai H 179 j) ∧ ∀ b : Nat, (b : Int) < (pj_fi K 21 0).toInt → (((b : Int) < (pj_fi G 21 0).toInt ∧ ∀ x, x < 4 → pj_ai E 179 (4 * b + x) = pj_ai H 179 (4 * b + x)) ∨ (pj_ai E 179 (4 * b) = Int32.ofInt (-1) ∧ pj_ai E 179 (4 * b + 2) = Int32.ofInt (-1)))
def mr_np3 (H E : pj_G) : Prop := ∀ j : Nat, j < 24 ∨ 30 ≤ j → pj_ai E 179 j = pj_ai H 179 j
set_option maxHeartbeats 4000000 in
/-- bridges() on both sides -/
theorem mr_bridges {G H : pj_G} (hI : pj_Inv G) (iH : pj_Inv H) (hs : (pj_fi G 2 1).toInt = (pj_fi H 171 16).toInt) (ht : ∀ j : Nat, (j : Int) < (pj_fi G 2 1).toInt → pj_ai G 3 j = pj_ai H 180 j) (hc : (pj_fi G 21 0).toInt = (pj_fi H 171 5).toInt) : (F_120tx G).1 = (F_196tx H).1 ∧ ((pj_fi (F_120tx G).2 21 0).toInt = (pj_fi (F_196tx H).2 171 5).toInt ∧ (mr_L G H → mr_L (F_120tx G).2 (F_196tx H).2) ∧ (mr_Sb G H → mr_Sb (F_120tx G).2 (F_196tx H).2) ∧ mr_nb3 G H (F_120tx G).2 (F_196tx H).2) ∧ ((1 ≤ (F_120tx G).1.toInt ∧ (pj_fi (F_120tx G).2 53 2).toInt = 0 ∧ (pj_fi (F_196tx H).2 171 30).toInt = 0 ∧ pj_fi (F_196tx H).2 171 7 = pj_fi H 171 7 + Int32.ofInt 1 ∧ (pj_fi (F_120tx G).2 21 0).toInt = (pj_fi G 21 0).toInt + (F_120tx G).1.toInt) ∨ ((F_120tx G).1.toInt ≤ 0 ∧ (pj_fi (F_120tx G).2 21 0).toInt = (pj_fi G 21 0).toInt ∧ pj_fi (F_120tx G).2 53 2 = pj_fi G 53 2 ∧ pj_fi (F_196tx H).2 171 30 = pj_fi H 171 30 ∧ pj_fi (F_196tx H).2 171 7 = pj_fi H 171 7)) := by
  have k17 : (((Int8.ofInt 17).toInt32)).toInt = 17 := by decide
  have k0 : (Int32.ofInt 0).toInt = 0 := by decide
  have k1 : (Int32.ofInt 1).toInt = 1 := by decide
  have cm : (Int32.ofInt (-1)).toInt = -1 := by decide
  have i0 : pj_Inv (pj_wv H 171 0 (.int (Int32.ofInt 0))) := pj_Inv_wi iH (ci := 12) rfl (fun q hq => by cases hq)
  obtain ⟨i1, kk1, r1, ⟨⟨x17, x18, x19⟩, x16⟩, y1, z1, w1, w2⟩ := fr_182etx (pj_wv H 171 0 (.int (Int32.ofInt 0))) i0 ((Int8.ofInt 17).toInt32) (by omega)
  have e16 : (pj_fi (pj_wv H 171 0 (.int (Int32.ofInt 0))) 171 16).toInt = (pj_fi G 2 1).toInt := by rw [pj_fi_wv_ne _ _ _ _ _ _ (by decide)]; exact hs.symm
  have b180 : ∀ j, pj_ai (F_182etx (pj_wv H 171 0 (.int (Int32.ofInt 0))) ((Int8.ofInt 17).toInt32)).2 180 j = pj_ai H 180 j := fun j => by rw [kk1.2.2 180 (by decide) j, pj_ai_wv]
  obtain ⟨iC, kC, c3, c4, l1, l2⟩ := fr_79x G hI ((Int8.ofInt 17).toInt32) (by omega)
  have rS : (0 : Int) ≤ (pj_fi G 2 1).toInt ∧ (pj_fi G 2 1).toInt ≤ 80 := hI.2.1 2 1 (0, 80) rfl
  have rB : (0 : Int) ≤ (pj_fi G 21 0).toInt ∧ (pj_fi G 21 0).toInt ≤ 6 := hI.2.1 21 0 (0, 6) rfl
  have sz : pj_fi (F_79x G ((Int8.ofInt 17).toInt32)) 2 1 = pj_fi G 2 1 := kC.1 (2, 1) (by decide)
  have nb : pj_fi (F_79x G ((Int8.ofInt 17).toInt32)) 21 0 = pj_fi G 21 0 := kC.1 (21, 0) (by decide)
  have kH : pj_kpt mr_WR H (pj_wv (F_182etx (pj_wv H 171 0 (.int (Int32.ofInt 0))) ((Int8.ofInt 17).toInt32)).2 171 22 (.int (Int32.ofInt 0))) := pj_kpt_v (pj_kpt_t (pj_kpt_v (pj_kpt_r _ _) rfl) (pj_kpt_s kk1 rfl)) rfl
  have eR : F_196tx H = pj_bd (F_195_1tx (pj_wv H 171 0 (.int (Int32.ofInt 0))) (Int32.ofInt 1)) (fun y58 G59 => cond (pj_c1 .ge y58 0) (L_196tx H 7 y58 (Int32.ofInt 0) G59) (y58, G59)) := by
    rw [F_196tx_e]
    simp only [pj_nm_x]
  have eR2 : F_195_1tx (pj_wv H 171 0 (.int (Int32.ofInt 0))) (Int32.ofInt 1) = cond (pj_c1 .le (F_182etx (pj_wv H 171 0 (.int (Int32.ofInt 0))) ((Int8.ofInt 17).toInt32)).1 0) (L_195_1tx (pj_wv H 171 0 (.int (Int32.ofInt 0))) (Int32.ofInt 1) 301 (F_182etx (pj_wv H 171 0 (.int (Int32.ofInt 0))) ((Int8.ofInt 17).toInt32)).1 (Int32.ofInt 1) (Int32.ofInt 0) (pj_wv (F_182etx (pj_wv H 171 0 (.int (Int32.ofInt 0))) ((Int8.ofInt 17).toInt32)).2 171 22 (.int (Int32.ofInt 0)))) (L_195_1tx (pj_wv H 171 0 (.int (Int32.ofInt 0))) (Int32.ofInt 1) 301 (F_182etx (pj_wv H 171 0 (.int (Int32.ofInt 0))) ((Int8.ofInt 17).toInt32)).1 (Int32.ofInt 1) (Int32.ofInt 1) (pj_wv (F_182etx (pj_wv H 171 0 (.int (Int32.ofInt 0))) ((Int8.ofInt 17).toInt32)).2 171 22 (.int (Int32.ofInt 0)))) := by
    rw [F_195_1tx_e]
    simp only [pj_nm_x, pj_bd_x]
  have eC : F_120tx G = pj_bd (F_91x (F_79x G ((Int8.ofInt 17).toInt32))) (fun y17 G18 => pj_bd (F_88tx G18) (fun y27 G28 => cond (pj_c1 .eq y27 (Int32.ofInt (-1))) (cond (pj_c1 .le y17 0) (y17, F_161x (pj_wv G28 21 0 (.int (pj_fi G28 21 0 + y17))) (Int32.ofInt 0)) (y17, F_161x (pj_wv G28 21 0 (.int (pj_fi G28 21 0 + y17))) (Int32.ofInt 1))) (F_162x G28 y27, G28))) := by
    rw [F_120tx_e]
    simp only [pj_nm_x]
  have eC2 : F_91x (F_79x G ((Int8.ofInt 17).toInt32)) = cond (pj_c1 .eq (F_80x (F_79x G ((Int8.ofInt 17).toInt32))) (Int32.ofInt (-1))) (L_91x (F_79x G ((Int8.ofInt 17).toInt32)) 8 (Int32.ofInt 0) (Int32.ofInt 0) (pj_fi (F_79x G ((Int8.ofInt 17).toInt32)) 21 0) (F_79x G ((Int8.ofInt 17).toInt32))) (L_91x (F_79x G ((Int8.ofInt 17).toInt32)) 8 (Int32.ofInt 0) (Int32.ofInt 1) (pj_fi (F_79x G ((Int8.ofInt 17).toInt32)) 21 0) (F_79x G ((Int8.ofInt 17).toInt32))) := by
    rw [F_91x_e]
    simp only [pj_nm_x]
  obtain ⟨-, -, pk1, pk2⟩ := fr_80x (F_79x G ((Int8.ofInt 17).toInt32)) iC
  obtain ⟨iP, kP, rP, xP⟩ := fr_91x (F_79x G ((Int8.ofInt 17).toInt32)) iC
  have bA : ∀ j, tx_bs G (F_79x G ((Int8.ofInt 17).toInt32)) j := fun j => tx_bsk kC rfl j
  rw [eR, eC]
  clear eR eC
  generalize (F_182etx (pj_wv H 171 0 (.int (Int32.ofInt 0))) ((Int8.ofInt 17).toInt32)).2 = R1 at *
  generalize (F_182etx (pj_wv H 171 0 (.int (Int32.ofInt 0))) ((Int8.ofInt 17).toInt32)).1 = n at *
  have hn : (pj_fi (F_79x G ((Int8.ofInt 17).toInt32)) 2 1).toInt = n.toInt := by rw [sz]; omega
  have h0 : tx_RD (F_79x G ((Int8.ofInt 17).toInt32)) R1 := ⟨iC, i1, c4, by omega, by omega, by omega, fun j hj => by rw [kC.2.2 3 (by decide) j, b180]; exact ht j (by omega)⟩
  have i22 := tx_i22 i1 (Int32.ofInt 0) (by omega)
  have h1 := tx_wvR h0 i22 (by decide) (by decide)
  have m22 : (pj_fi (pj_wv R1 171 22 (.int (Int32.ofInt 0))) 171 22).toInt = 0 := by rw [pj_fi_wi i1.1 (ci := 12) rfl _, k0]
  have kC1 : pj_fi (F_79x G ((Int8.ofInt 17).toInt32)) 53 2 = pj_fi G 53 2 := kC.1 (53, 2) (by decide)
  generalize pj_wv R1 171 22 (.int (Int32.ofInt 0)) = R2 at *
  generalize hA : F_79x G ((Int8.ofInt 17).toInt32) = A at *
  have nb' : (pj_fi A 21 0).toInt = (pj_fi G 21 0).toInt := by rw [nb]
  have r5 : (pj_fi R2 171 5).toInt = (pj_fi G 21 0).toInt := by rw [show pj_fi R2 171 5 = pj_fi H 171 5 from kH.1 (171, 5) (by decide)]; exact hc.symm
  have key : ∃ more : Int32, (more.toInt = 0 ∨ more.toInt = 1) ∧ F_91x A = L_91x A 8 (Int32.ofInt 0) more (pj_fi A 21 0) A ∧ F_195_1tx (pj_wv H 171 0 (.int (Int32.ofInt 0))) (Int32.ofInt 1) = L_195_1tx (pj_wv H 171 0 (.int (Int32.ofInt 0))) (Int32.ofInt 1) 301 n (Int32.ofInt 1) more R2 := by
    by_cases hn0 : n.toInt ≤ 0
    · have p := pk2 (by omega)
      refine ⟨Int32.ofInt 0, .inl k0, ?_, ?_⟩
      · rw [eC2, pj_b_eqT (show (F_80x A).toInt = (Int32.ofInt (-1)).toInt by omega), pj_cT]
      · rw [eR2, pj_b0_leT hn0, pj_cT]
    · have p := pk1 (by omega)
      have rt : (0 : Int) ≤ (pj_ai A 3 (pj_fi A 2 3).toInt.toNat).toInt := (iC.2.2.1 3 (80, 0, 255, 0, 0) rfl _ (by show _ < 80; omega)).1
      refine ⟨Int32.ofInt 1, .inr k1, ?_, ?_⟩
      · rw [eC2, pj_b_eqF (show ¬ (F_80x A).toInt = (Int32.ofInt (-1)).toInt by omega), pj_cF]
      · rw [eR2, pj_b0_leF (show 0 < n.toInt by omega), pj_cF]
  obtain ⟨more, hmore, eA, eB⟩ := key
  obtain ⟨k, hk⟩ : ∃ k : Nat, (pj_fi A 21 0).toInt + k = 7 := ⟨(7 - (pj_fi A 21 0).toInt).toNat, by omega⟩
  obtain ⟨is', R', z1, z2, z3, z4⟩ := tx_brl A (pj_wv H 171 0 (.int (Int32.ofInt 0))) (Int32.ofInt 1) n (by decide) k 8 301 (Int32.ofInt 0) more (pj_fi A 21 0) (Int32.ofInt 1) more A R2 h1 rfl hmore k1 (by omega) (by omega) (by omega) (fun i hi => absurd hi (by omega)) (by omega) hk (by omega) (by omega)
  have kR2 : pj_kpt mr_WR H R' := pj_kpt_t kH (pj_kpt_s z2 rfl)
  rw [eB, z1, eA]
  rw [eA] at iP kP rP xP
  clear eC2 eR2 eA eB z1
  simp only [pj_bd_x]
  generalize L_91x A 8 (Int32.ofInt 0) more (pj_fi A 21 0) A = p at *
  obtain ⟨y, P⟩ := p
  dsimp only at *
  have st' : (is'.toInt = 1 ∧ tx_RD P R') ∨ (is'.toInt = 0 ∧ tx_ER P R') := z4.imp (fun q => ⟨q.1, q.2.1⟩) id
  have iR' : pj_Inv R' := by
    rcases st' with ⟨_, b⟩ | ⟨_, b⟩
    · exact b.2.1
    · exact b.2.1
  have s1 : (pj_fi P 2 1).toInt = n.toInt := by rw [kP.1 (2, 1) (by decide)]; exact hn
  have s2 : (pj_fi P 2 2).toInt = (pj_fi A 2 2).toInt := by rw [kP.1 (2, 2) (by decide)]
  have ft := tx_fault n ((Int8.ofInt 17).toInt32) is' (by omega) (by omega) s1 (by omega) (by omega) (by omega) st'
  clear x17 x18 x19 x16 y1 z1 w1 w2 e16 c3 c4 l1 l2 pk1 pk2 hmore hk m22 r1 hs ht b180
  obtain ⟨i2, k2, r2, -⟩ := fr_88tx P iP
  have f21 : pj_fi (F_88tx P).2 21 0 = pj_fi A 21 0 := by rw [k2.1 (21, 0) (by decide), kP.1 (21, 0) (by decide)]
  have f53 : pj_fi (F_88tx P).2 53 2 = pj_fi G 53 2 := by rw [k2.1 (53, 2) (by decide), kP.1 (53, 2) (by decide), kC1]
  have bK : ∀ j, tx_bs P (F_88tx P).2 j := fun j => tx_bsk k2 rfl j
  have r22 := tx_r22 iR'
  obtain ⟨B, hB⟩ : ∃ B : Nat, (B : Int) = (pj_fi G 21 0).toInt := ⟨(pj_fi G 21 0).toInt.toNat, by omega⟩
  rcases ft with ⟨a1, a2, a3⟩ | ⟨a1, a2, a3⟩
  · rcases z4 with ⟨_, hRD, y1, y5, yd⟩ | ⟨b, _⟩
    · have x6 := xP hRD.2.2.1
      have nbP : (pj_fi P 21 0).toInt = (B : Int) := by rw [show pj_fi P 21 0 = pj_fi A 21 0 from kP.1 (21, 0) (by decide)]; omega
      have r5' : (pj_fi R' 171 5).toInt = (B : Int) := by rw [y5]; omega
      obtain ⟨V, c1, c2, c5, c6, c7, c8, c9, c10⟩ := mr_cb H (F_189x R' n ((Int8.ofInt 17).toInt32) is') B 6 7 (Int32.ofInt 0) R' iR'.1 (by omega) (by omega) (by omega) (by omega) (by omega) (by omega)
      have f22 := c5 171 22 (by omega)
      have sK : (pj_fi (F_88tx P).2 21 0 + y).toInt = (B : Int) + y.toInt := by rw [f21, pj_addI (by omega) (by omega)]; omega
      have fin : ∀ Kf Ef : pj_G, (pj_fi Kf 21 0).toInt = (B : Int) + y.toInt → (∀ a j, pj_ai Kf a j = pj_ai (F_88tx P).2 a j) → (pj_fi Ef 171 5).toInt = (B : Int) + y.toInt → (∀ a j, pj_ai Ef a j = pj_ai V a j) → ((pj_fi Kf 21 0).toInt = (pj_fi Ef 171 5).toInt ∧ (mr_L G H → mr_L Kf Ef) ∧ (mr_Sb G H → mr_Sb Kf Ef) ∧ mr_nb3 G H Kf Ef) := by
        intro Kf Ef q1 q2 q3 q4
        have old : ∀ j : Nat, (j : Int) < (B : Int) → tx_bs G Kf j := fun j hj => tx_bst (tx_bst (bA j) (z3 j (by omega))) (tx_bst (bK j) ⟨q2 31 j, q2 24 j, q2 22 j, q2 23 j, q2 25 j⟩)
        have new : ∀ i : Nat, (i : Int) < y.toInt → tx_bd Kf R' (B + i) i := fun i hi => by
          have z := yd i (by omega)
          rw [show (pj_fi R2 171 5).toInt.toNat + i = B + i by omega] at z
          exact tx_bdk z (tx_bst (bK _) ⟨q2 31 _, q2 24 _, q2 22 _, q2 23 _, q2 25 _⟩) (fun _ _ => rfl)
        refine ⟨by omega, fun hL b hb => ?_, fun hS b hb => ?_, fun j hj => by rw [q4, c9 j (.inr hj), kR2.2.2 179 (by decide)], fun b hb => ?_⟩
        · rw [q4]
          by_cases qb : (b : Int) < (B : Int)
          · rw [(old b qb).1, c8 b (by omega), kR2.2.2 177 (by decide) b]
            exact hL b (by omega)
          · obtain ⟨i, rfl⟩ : ∃ i, b = B + i := ⟨b - B, by omega⟩
            rw [(c10 i (by omega) (by omega)).1]
            exact (new i (by omega)).1
        · rw [q4, q4, q4, q4]
          by_cases qb : (b : Int) < (B : Int)
          · obtain ⟨o1, o2, o3, o4, o5⟩ := old b qb
            rw [o2, o3, o4, o5, c9 _ (by omega), c9 _ (by omega), c9 _ (by omega), c9 _ (by omega), kR2.2.2 179 (by decide), kR2.2.2 179 (by decide), kR2.2.2 179 (by decide), kR2.2.2 179 (by decide)]
            exact hS b (by omega)
          · obtain ⟨i, rfl⟩ : ∃ i, b = B + i := ⟨b - B, by omega⟩
            obtain ⟨d1, d2, d3, d4, d5⟩ := c10 i (by omega) (by omega)
            obtain ⟨o1, o2, o3, o4, o5⟩ := new i (by omega)
            rw [d2, d3, d4, d5]
            exact ⟨o3, o4, o5, o2⟩
        · by_cases qb : (b : Int) < (B : Int)
          · exact .inl ⟨by omega, fun x hx => by rw [q4, c9 _ (by omega), kR2.2.2 179 (by decide)]⟩
          · obtain ⟨i, rfl⟩ : ∃ i, b = B + i := ⟨b - B, by omega⟩
            obtain ⟨d1, d2, d3, d4, d5⟩ := c10 i (by omega) (by omega)
            exact .inr ⟨by rw [q4]; exact d2, by rw [q4]; exact d4⟩
      rw [pj_b_eqT (show (F_88tx P).1.toInt = (Int32.ofInt (-1)).toInt by omega), pj_cT, pj_b0_geT (show 0 ≤ (F_189x R' n ((Int8.ofInt 17).toInt32) is').toInt by omega), pj_cT, c1]
      obtain ⟨g1, g2⟩ := mr_fin_r c2
      have e22 : pj_fi V 171 22 = y := by rw [f22]; exact Int32.toInt_inj.mp y1.symm
      have wK : pj_fi (pj_wv (F_88tx P).2 21 0 (.int (pj_fi (F_88tx P).2 21 0 + y))) 21 0 = pj_fi (F_88tx P).2 21 0 + y := pj_fi_wi i2.1 (ci := 8) rfl _
      have wS := mr_sv i2.1 (a := 21) (ci := 8) (k := 0) rfl (pj_fi (F_88tx P).2 21 0 + y)
      by_cases ly : y.toInt ≤ 0
      · rw [pj_b0_leT ly, pj_cT, (mr_161 _).1, g1 (by rw [e22]; exact ly)]
        dsimp only
        refine ⟨e22.symm, fin _ _ (by rw [wK]; exact sK) (fun a j => pj_ai_wv _ _ _ _ _ _) (by rw [c6]; omega) (fun _ _ => rfl), .inr ⟨ly, by rw [wK]; omega, by rw [pj_fi_wv_ne _ _ _ _ _ _ (by decide)]; exact f53, by rw [c5 171 30 (by omega), kR2.1 (171, 30) (by decide)], by rw [c5 171 7 (by omega), kR2.1 (171, 7) (by decide)]⟩⟩
      · rw [pj_b0_leF (show 0 < y.toInt by omega), pj_cF, (mr_161 _).2]
        obtain ⟨h6, h7, h8, h9, h10⟩ := g2 (by rw [e22]; omega)
        dsimp only
        refine ⟨by rw [h6, e22], fin _ _ (by rw [pj_fi_wv_ne _ _ _ _ _ _ (by decide), wK]; exact sK) (fun a j => by rw [pj_ai_wv, pj_ai_wv]) (by rw [h8 5 (by decide) (by decide), c6]; omega) h7, .inl ⟨by omega, by rw [pj_fi_wi wS (a := 53) (ci := 4) (k := 2) rfl]; exact k0, h9, by rw [h10, c5 171 7 (by omega), kR2.1 (171, 7) (by decide)], by rw [pj_fi_wv_ne _ _ _ _ _ _ (by decide), wK]; omega⟩⟩
    · omega
  · rw [pj_b_eqF (show ¬ (F_88tx P).1.toInt = (Int32.ofInt (-1)).toInt by omega), pj_cF, pj_b0_geF (show (F_189x R' n ((Int8.ofInt 17).toInt32) is').toInt < 0 by omega), pj_cF]
    have e162 : F_162x (F_88tx P).2 (F_88tx P).1 = Int32.ofInt (-1) - (F_88tx P).1 := by rw [F_162x_e, pj_nm_e]
    have t162 : (Int32.ofInt (-1) - (F_88tx P).1).toInt = -1 - (F_88tx P).1.toInt := by rw [pj_subI (by omega) (by omega), cm]
    rw [e162]
    dsimp only
    have cnt : (pj_fi (F_88tx P).2 21 0).toInt = (pj_fi G 21 0).toInt := by rw [f21]; exact nb'
    have old : ∀ j : Nat, (j : Int) < (pj_fi G 21 0).toInt → tx_bs G (F_88tx P).2 j := fun j hj => tx_bst (tx_bst (bA j) (z3 j (by omega))) (bK j)
    refine ⟨Int32.toInt_inj.mp (t162.trans a3.symm), ⟨by rw [cnt, kR2.1 (171, 5) (by decide)]; exact hc, fun hL b hb => ?_, fun hS b hb => ?_, fun j _ => kR2.2.2 179 (by decide) j, fun b hb => .inl ⟨by omega, fun x _ => kR2.2.2 179 (by decide) _⟩⟩, .inr ⟨mr_le0 t162 a2, cnt, f53, kR2.1 (171, 30) (by decide), kR2.1 (171, 7) (by decide)⟩⟩
    · rw [(old b (by omega)).1, kR2.2.2 177 (by decide) b]
      exact hL b (by omega)
    · obtain ⟨o1, o2, o3, o4, o5⟩ := old b (by omega)
      rw [o2, o3, o4, o5, kR2.2.2 179 (by decide), kR2.2.2 179 (by decide), kR2.2.2 179 (by decide), kR2.2.2 179 (by decide)]
      exact hS b (by omega)
set_option maxHeartbeats 4000000 in
/-- people() on both sides (the river at cell 7) -/
theorem mr_people_7 {G H : pj_G} (hI : pj_Inv G) (iH : pj_Inv H) (hs : (pj_fi G 2 1).toInt = (pj_fi H 171 16).toInt) (ht : ∀ j : Nat, (j : Int) < (pj_fi G 2 1).toInt → pj_ai G 3 j = pj_ai H 180 j) (hc : (pj_fi G 21 5).toInt = (pj_fi H 171 6).toInt) (hv : pj_fv G 6 0 = some (.ref 7)) (hb : pj_fi G 7 0 = pj_fi H 171 3) : (F_121tx G).1 = (F_197tx H).1 ∧ ((pj_fi (F_121tx G).2 21 5).toInt = (pj_fi (F_197tx H).2 171 6).toInt ∧ (mr_H G H → mr_H (F_121tx G).2 (F_197tx H).2) ∧ (mr_Sp G H → mr_Sp (F_121tx G).2 (F_197tx H).2) ∧ mr_np3 H (F_197tx H).2) ∧ ((1 ≤ (F_121tx G).1.toInt ∧ (pj_fi (F_121tx G).2 53 2).toInt = 0 ∧ (pj_fi (F_197tx H).2 171 30).toInt = 0 ∧ pj_fi (F_197tx H).2 171 7 = pj_fi H 171 7 + Int32.ofInt 1 ∧ (pj_fi (F_121tx G).2 21 5).toInt = (pj_fi G 21 5).toInt + (F_121tx G).1.toInt) ∨ ((F_121tx G).1.toInt ≤ 0 ∧ (pj_fi (F_121tx G).2 21 5).toInt = (pj_fi G 21 5).toInt ∧ pj_fi (F_121tx G).2 53 2 = pj_fi G 53 2 ∧ pj_fi (F_197tx H).2 171 30 = pj_fi H 171 30 ∧ pj_fi (F_197tx H).2 171 7 = pj_fi H 171 7)) := by
  have k17 : (((Int8.ofInt 17).toInt32)).toInt = 17 := by decide
  have k0 : (Int32.ofInt 0).toInt = 0 := by decide
  have k1 : (Int32.ofInt 1).toInt = 1 := by decide
  have cm : (Int32.ofInt (-1)).toInt = -1 := by decide
  have i0 : pj_Inv (pj_wv H 171 0 (.int (Int32.ofInt 0))) := pj_Inv_wi iH (ci := 12) rfl (fun q hq => by cases hq)
  obtain ⟨i1, kk1, r1, ⟨⟨x17, x18, x19⟩, x16⟩, y1, z1, w1, w2⟩ := fr_182etx (pj_wv H 171 0 (.int (Int32.ofInt 0))) i0 ((Int8.ofInt 17).toInt32) (by omega)
  have e16 : (pj_fi (pj_wv H 171 0 (.int (Int32.ofInt 0))) 171 16).toInt = (pj_fi G 2 1).toInt := by rw [pj_fi_wv_ne _ _ _ _ _ _ (by decide)]; exact hs.symm
  have b180 : ∀ j, pj_ai (F_182etx (pj_wv H 171 0 (.int (Int32.ofInt 0))) ((Int8.ofInt 17).toInt32)).2 180 j = pj_ai H 180 j := fun j => by rw [kk1.2.2 180 (by decide) j, pj_ai_wv]
  obtain ⟨iC, kC, c3, c4, l1, l2⟩ := fr_79x G hI ((Int8.ofInt 17).toInt32) (by omega)
  have rS : (0 : Int) ≤ (pj_fi G 2 1).toInt ∧ (pj_fi G 2 1).toInt ≤ 80 := hI.2.1 2 1 (0, 80) rfl
  have rB : (0 : Int) ≤ (pj_fi G 21 5).toInt ∧ (pj_fi G 21 5).toInt ≤ 6 := hI.2.1 21 5 (0, 6) rfl
  have sz : pj_fi (F_79x G ((Int8.ofInt 17).toInt32)) 2 1 = pj_fi G 2 1 := kC.1 (2, 1) (by decide)
  have nb : pj_fi (F_79x G ((Int8.ofInt 17).toInt32)) 21 5 = pj_fi G 21 5 := kC.1 (21, 5) (by decide)
  have kH : pj_kpt mr_WR H (pj_wv (F_182etx (pj_wv H 171 0 (.int (Int32.ofInt 0))) ((Int8.ofInt 17).toInt32)).2 171 22 (.int (Int32.ofInt 0))) := pj_kpt_v (pj_kpt_t (pj_kpt_v (pj_kpt_r _ _) rfl) (pj_kpt_s kk1 rfl)) rfl
  have eR : F_197tx H = pj_bd (F_195_0tx (pj_wv H 171 0 (.int (Int32.ofInt 0))) (Int32.ofInt 0)) (fun y58 G59 => cond (pj_c1 .ge y58 0) (L_197tx H 7 y58 (Int32.ofInt 0) G59) (y58, G59)) := by
    rw [F_197tx_e]
    simp only [pj_nm_x]
  have eR2 : F_195_0tx (pj_wv H 171 0 (.int (Int32.ofInt 0))) (Int32.ofInt 0) = cond (pj_c1 .le (F_182etx (pj_wv H 171 0 (.int (Int32.ofInt 0))) ((Int8.ofInt 17).toInt32)).1 0) (L_195_0tx (pj_wv H 171 0 (.int (Int32.ofInt 0))) (Int32.ofInt 0) 301 (F_182etx (pj_wv H 171 0 (.int (Int32.ofInt 0))) ((Int8.ofInt 17).toInt32)).1 (Int32.ofInt 1) (Int32.ofInt 0) (pj_wv (F_182etx (pj_wv H 171 0 (.int (Int32.ofInt 0))) ((Int8.ofInt 17).toInt32)).2 171 22 (.int (Int32.ofInt 0)))) (L_195_0tx (pj_wv H 171 0 (.int (Int32.ofInt 0))) (Int32.ofInt 0) 301 (F_182etx (pj_wv H 171 0 (.int (Int32.ofInt 0))) ((Int8.ofInt 17).toInt32)).1 (Int32.ofInt 1) (Int32.ofInt 1) (pj_wv (F_182etx (pj_wv H 171 0 (.int (Int32.ofInt 0))) ((Int8.ofInt 17).toInt32)).2 171 22 (.int (Int32.ofInt 0)))) := by
    rw [F_195_0tx_e]
    simp only [pj_nm_x, pj_bd_x]
  have eC : F_121tx G = pj_bd (F_92x (F_79x G ((Int8.ofInt 17).toInt32))) (fun y17 G18 => pj_bd (F_88tx G18) (fun y27 G28 => cond (pj_c1 .eq y27 (Int32.ofInt (-1))) (cond (pj_c1 .le y17 0) (y17, F_161x (pj_wv G28 21 5 (.int (pj_fi G28 21 5 + y17))) (Int32.ofInt 0)) (y17, F_161x (pj_wv G28 21 5 (.int (pj_fi G28 21 5 + y17))) (Int32.ofInt 1))) (F_162x G28 y27, G28))) := by
    rw [F_121tx_e]
    simp only [pj_nm_x]
  have eC2 : F_92x (F_79x G ((Int8.ofInt 17).toInt32)) = cond (pj_c1 .eq (F_80x (F_79x G ((Int8.ofInt 17).toInt32))) (Int32.ofInt (-1))) (L_92x (F_79x G ((Int8.ofInt 17).toInt32)) 8 (Int32.ofInt 0) (Int32.ofInt 0) (pj_fi (F_79x G ((Int8.ofInt 17).toInt32)) 21 5) (F_79x G ((Int8.ofInt 17).toInt32))) (L_92x (F_79x G ((Int8.ofInt 17).toInt32)) 8 (Int32.ofInt 0) (Int32.ofInt 1) (pj_fi (F_79x G ((Int8.ofInt 17).toInt32)) 21 5) (F_79x G ((Int8.ofInt 17).toInt32))) := by
    rw [F_92x_e]
    simp only [pj_nm_x]
  obtain ⟨-, -, pk1, pk2⟩ := fr_80x (F_79x G ((Int8.ofInt 17).toInt32)) iC
  obtain ⟨iP, kP, rP, xP⟩ := fr_92x (F_79x G ((Int8.ofInt 17).toInt32)) iC
  have bA : ∀ j, tx_ps G (F_79x G ((Int8.ofInt 17).toInt32)) j := fun j => tx_psk kC rfl j
  rw [eR, eC]
  clear eR eC
  generalize (F_182etx (pj_wv H 171 0 (.int (Int32.ofInt 0))) ((Int8.ofInt 17).toInt32)).2 = R1 at *
  generalize (F_182etx (pj_wv H 171 0 (.int (Int32.ofInt 0))) ((Int8.ofInt 17).toInt32)).1 = n at *
  have hn : (pj_fi (F_79x G ((Int8.ofInt 17).toInt32)) 2 1).toInt = n.toInt := by rw [sz]; omega
  have h0 : tx_RD (F_79x G ((Int8.ofInt 17).toInt32)) R1 := ⟨iC, i1, c4, by omega, by omega, by omega, fun j hj => by rw [kC.2.2 3 (by decide) j, b180]; exact ht j (by omega)⟩
  have i22 := tx_i22 i1 (Int32.ofInt 0) (by omega)
  have h1 := tx_wvR h0 i22 (by decide) (by decide)
  have m22 : (pj_fi (pj_wv R1 171 22 (.int (Int32.ofInt 0))) 171 22).toInt = 0 := by rw [pj_fi_wi i1.1 (ci := 12) rfl _, k0]
  have kC1 : pj_fi (F_79x G ((Int8.ofInt 17).toInt32)) 53 2 = pj_fi G 53 2 := kC.1 (53, 2) (by decide)
  have kV : pj_fv (F_79x G ((Int8.ofInt 17).toInt32)) 6 0 = pj_fv G 6 0 := kC.2.1.2 (6, 0) (by decide)
  have kB : pj_fi (F_79x G ((Int8.ofInt 17).toInt32)) 7 0 = pj_fi G 7 0 := kC.1 (7, 0) (by decide)
  generalize pj_wv R1 171 22 (.int (Int32.ofInt 0)) = R2 at *
  generalize hA : F_79x G ((Int8.ofInt 17).toInt32) = A at *
  have nb' : (pj_fi A 21 5).toInt = (pj_fi G 21 5).toInt := by rw [nb]
  have r5 : (pj_fi R2 171 6).toInt = (pj_fi G 21 5).toInt := by rw [show pj_fi R2 171 6 = pj_fi H 171 6 from kH.1 (171, 6) (by decide)]; exact hc.symm
  have hvA : pj_fv A 6 0 = some (.ref 7) := (kV).trans hv
  have hbA : pj_fi A 7 0 = pj_fi R2 171 3 := by rw [kB, kH.1 (171, 3) (by decide)]; exact hb
  have key : ∃ more : Int32, (more.toInt = 0 ∨ more.toInt = 1) ∧ F_92x A = L_92x A 8 (Int32.ofInt 0) more (pj_fi A 21 5) A ∧ F_195_0tx (pj_wv H 171 0 (.int (Int32.ofInt 0))) (Int32.ofInt 0) = L_195_0tx (pj_wv H 171 0 (.int (Int32.ofInt 0))) (Int32.ofInt 0) 301 n (Int32.ofInt 1) more R2 := by
    by_cases hn0 : n.toInt ≤ 0
    · have p := pk2 (by omega)
      refine ⟨Int32.ofInt 0, .inl k0, ?_, ?_⟩
      · rw [eC2, pj_b_eqT (show (F_80x A).toInt = (Int32.ofInt (-1)).toInt by omega), pj_cT]
      · rw [eR2, pj_b0_leT hn0, pj_cT]
    · have p := pk1 (by omega)
      have rt : (0 : Int) ≤ (pj_ai A 3 (pj_fi A 2 3).toInt.toNat).toInt := (iC.2.2.1 3 (80, 0, 255, 0, 0) rfl _ (by show _ < 80; omega)).1
      refine ⟨Int32.ofInt 1, .inr k1, ?_, ?_⟩
      · rw [eC2, pj_b_eqF (show ¬ (F_80x A).toInt = (Int32.ofInt (-1)).toInt by omega), pj_cF]
      · rw [eR2, pj_b0_leF (show 0 < n.toInt by omega), pj_cF]
  obtain ⟨more, hmore, eA, eB⟩ := key
  obtain ⟨k, hk⟩ : ∃ k : Nat, (pj_fi A 21 5).toInt + k = 7 := ⟨(7 - (pj_fi A 21 5).toInt).toNat, by omega⟩
  obtain ⟨is', R', z1, z2, z3, z4⟩ := tx_pel_7 A (pj_wv H 171 0 (.int (Int32.ofInt 0))) (Int32.ofInt 0) n (by decide) k 8 301 (Int32.ofInt 0) more (pj_fi A 21 5) (Int32.ofInt 1) more A R2 h1 hvA hbA rfl hmore k1 (by omega) (by omega) (by omega) (fun i hi => absurd hi (by omega)) (by omega) hk (by omega) (by omega)
  have kR2 : pj_kpt mr_WR H R' := pj_kpt_t kH (pj_kpt_s z2 rfl)
  rw [eB, z1, eA]
  rw [eA] at iP kP rP xP
  clear eC2 eR2 eA eB z1
  simp only [pj_bd_x]
  generalize L_92x A 8 (Int32.ofInt 0) more (pj_fi A 21 5) A = p at *
  obtain ⟨y, P⟩ := p
  dsimp only at *
  have st' : (is'.toInt = 1 ∧ tx_RD P R') ∨ (is'.toInt = 0 ∧ tx_ER P R') := z4.imp (fun q => ⟨q.1, q.2.1⟩) id
  have iR' : pj_Inv R' := by
    rcases st' with ⟨_, b⟩ | ⟨_, b⟩
    · exact b.2.1
    · exact b.2.1
  have s1 : (pj_fi P 2 1).toInt = n.toInt := by rw [kP.1 (2, 1) (by decide)]; exact hn
  have s2 : (pj_fi P 2 2).toInt = (pj_fi A 2 2).toInt := by rw [kP.1 (2, 2) (by decide)]
  have ft := tx_fault n ((Int8.ofInt 17).toInt32) is' (by omega) (by omega) s1 (by omega) (by omega) (by omega) st'
  clear x17 x18 x19 x16 y1 z1 w1 w2 e16 c3 c4 l1 l2 pk1 pk2 hmore hk m22 r1 hs ht b180
  obtain ⟨i2, k2, r2, -⟩ := fr_88tx P iP
  have f21 : pj_fi (F_88tx P).2 21 5 = pj_fi A 21 5 := by rw [k2.1 (21, 5) (by decide), kP.1 (21, 5) (by decide)]
  have f53 : pj_fi (F_88tx P).2 53 2 = pj_fi G 53 2 := by rw [k2.1 (53, 2) (by decide), kP.1 (53, 2) (by decide), kC1]
  have bK : ∀ j, tx_ps P (F_88tx P).2 j := fun j => tx_psk k2 rfl j
  have r22 := tx_r22 iR'
  obtain ⟨B, hB⟩ : ∃ B : Nat, (B : Int) = (pj_fi G 21 5).toInt := ⟨(pj_fi G 21 5).toInt.toNat, by omega⟩
  rcases ft with ⟨a1, a2, a3⟩ | ⟨a1, a2, a3⟩
  · rcases z4 with ⟨_, hRD, y1, y5, yd⟩ | ⟨b, _⟩
    · have x6 := xP hRD.2.2.1
      have nbP : (pj_fi P 21 5).toInt = (B : Int) := by rw [show pj_fi P 21 5 = pj_fi A 21 5 from kP.1 (21, 5) (by decide)]; omega
      have r5' : (pj_fi R' 171 6).toInt = (B : Int) := by rw [y5]; omega
      obtain ⟨V, c1, c2, c5, c6, c7, c8, c9, c10⟩ := mr_cpp H (F_189x R' n ((Int8.ofInt 17).toInt32) is') B 6 7 (Int32.ofInt 0) R' iR'.1 (by omega) (by omega) (by omega) (by omega) (by omega) (by omega)
      have f22 := c5 171 22 (by omega)
      have sK : (pj_fi (F_88tx P).2 21 5 + y).toInt = (B : Int) + y.toInt := by rw [f21, pj_addI (by omega) (by omega)]; omega
      have fin : ∀ Kf Ef : pj_G, (pj_fi Kf 21 5).toInt = (B : Int) + y.toInt → (∀ a j, pj_ai Kf a j = pj_ai (F_88tx P).2 a j) → (pj_fi Ef 171 6).toInt = (B : Int) + y.toInt → (∀ a j, pj_ai Ef a j = pj_ai V a j) → ((pj_fi Kf 21 5).toInt = (pj_fi Ef 171 6).toInt ∧ (mr_H G H → mr_H Kf Ef) ∧ (mr_Sp G H → mr_Sp Kf Ef) ∧ mr_np3 H Ef) := by
        intro Kf Ef q1 q2 q3 q4
        have old : ∀ j : Nat, (j : Int) < (B : Int) → tx_ps G Kf j := fun j hj => tx_pst (tx_pst (bA j) (z3 j (by omega))) (tx_pst (bK j) ⟨q2 26 j, q2 32 j⟩)
        have new : ∀ i : Nat, (i : Int) < y.toInt → tx_pd Kf R' (B + i) i := fun i hi => by
          have z := yd i (by omega)
          rw [show (pj_fi R2 171 6).toInt.toNat + i = B + i by omega] at z
          exact tx_pdk z (tx_pst (bK _) ⟨q2 26 _, q2 32 _⟩) (fun _ _ => rfl)
        refine ⟨by omega, fun hL b hb => ?_, fun hS b hb => ?_, fun j hj => by rw [q4, c9 j (by omega), kR2.2.2 179 (by decide)]⟩
        · rw [q4]
          by_cases qb : (b : Int) < (B : Int)
          · rw [(old b qb).2, c8 b (by omega), kR2.2.2 178 (by decide) b]
            exact hL b (by omega)
          · obtain ⟨i, rfl⟩ : ∃ i, b = B + i := ⟨b - B, by omega⟩
            rw [(c10 i (by omega) (by omega)).2]
            exact (new i (by omega)).2
        · rw [q4]
          by_cases qb : (b : Int) < (B : Int)
          · rw [(old b qb).1, c9 _ (by omega), kR2.2.2 179 (by decide)]
            exact hS b (by omega)
          · obtain ⟨i, rfl⟩ : ∃ i, b = B + i := ⟨b - B, by omega⟩
            rw [(c10 i (by omega) (by omega)).1]
            exact (new i (by omega)).1
      rw [pj_b_eqT (show (F_88tx P).1.toInt = (Int32.ofInt (-1)).toInt by omega), pj_cT, pj_b0_geT (show 0 ≤ (F_189x R' n ((Int8.ofInt 17).toInt32) is').toInt by omega), pj_cT, c1]
      obtain ⟨g1, g2⟩ := mr_fin_r c2
      have e22 : pj_fi V 171 22 = y := by rw [f22]; exact Int32.toInt_inj.mp y1.symm
      have wK : pj_fi (pj_wv (F_88tx P).2 21 5 (.int (pj_fi (F_88tx P).2 21 5 + y))) 21 5 = pj_fi (F_88tx P).2 21 5 + y := pj_fi_wi i2.1 (ci := 8) rfl _
      have wS := mr_sv i2.1 (a := 21) (ci := 8) (k := 5) rfl (pj_fi (F_88tx P).2 21 5 + y)
      by_cases ly : y.toInt ≤ 0
      · rw [pj_b0_leT ly, pj_cT, (mr_161 _).1, g1 (by rw [e22]; exact ly)]
        dsimp only
        refine ⟨e22.symm, fin _ _ (by rw [wK]; exact sK) (fun a j => pj_ai_wv _ _ _ _ _ _) (by rw [c6]; omega) (fun _ _ => rfl), .inr ⟨ly, by rw [wK]; omega, by rw [pj_fi_wv_ne _ _ _ _ _ _ (by decide)]; exact f53, by rw [c5 171 30 (by omega), kR2.1 (171, 30) (by decide)], by rw [c5 171 7 (by omega), kR2.1 (171, 7) (by decide)]⟩⟩
      · rw [pj_b0_leF (show 0 < y.toInt by omega), pj_cF, (mr_161 _).2]
        obtain ⟨h6, h7, h8, h9, h10⟩ := g2 (by rw [e22]; omega)
        dsimp only
        refine ⟨by rw [h6, e22], fin _ _ (by rw [pj_fi_wv_ne _ _ _ _ _ _ (by decide), wK]; exact sK) (fun a j => by rw [pj_ai_wv, pj_ai_wv]) (by rw [h8 6 (by decide) (by decide), c6]; omega) h7, .inl ⟨by omega, by rw [pj_fi_wi wS (a := 53) (ci := 4) (k := 2) rfl]; exact k0, h9, by rw [h10, c5 171 7 (by omega), kR2.1 (171, 7) (by decide)], by rw [pj_fi_wv_ne _ _ _ _ _ _ (by decide), wK]; omega⟩⟩
    · omega
  · rw [pj_b_eqF (show ¬ (F_88tx P).1.toInt = (Int32.ofInt (-1)).toInt by omega), pj_cF, pj_b0_geF (show (F_189x R' n ((Int8.ofInt 17).toInt32) is').toInt < 0 by omega), pj_cF]
    have e162 : F_162x (F_88tx P).2 (F_88tx P).1 = Int32.ofInt (-1) - (F_88tx P).1 := by rw [F_162x_e, pj_nm_e]
    have t162 : (Int32.ofInt (-1) - (F_88tx P).1).toInt = -1 - (F_88tx P).1.toInt := by rw [pj_subI (by omega) (by omega), cm]
    rw [e162]
    dsimp only
    have cnt : (pj_fi (F_88tx P).2 21 5).toInt = (pj_fi G 21 5).toInt := by rw [f21]; exact nb'
    have old : ∀ j : Nat, (j : Int) < (pj_fi G 21 5).toInt → tx_ps G (F_88tx P).2 j := fun j hj => tx_pst (tx_pst (bA j) (z3 j (by omega))) (bK j)
    refine ⟨Int32.toInt_inj.mp (t162.trans a3.symm), ⟨by rw [cnt, kR2.1 (171, 6) (by decide)]; exact hc, fun hL b hb => ?_, fun hS b hb => ?_, fun j _ => kR2.2.2 179 (by decide) j⟩, .inr ⟨mr_le0 t162 a2, cnt, f53, kR2.1 (171, 30) (by decide), kR2.1 (171, 7) (by decide)⟩⟩
    · rw [(old b (by omega)).2, kR2.2.2 178 (by decide) b]
      exact hL b (by omega)
    · rw [(old b (by omega)).1, kR2.2.2 179 (by decide)]
      exact hS b (by omega)
set_option maxHeartbeats 4000000 in
/-- people() on both sides (the river at cell 14) -/
theorem mr_people_14 {G H : pj_G} (hI : pj_Inv G) (iH : pj_Inv H) (hs : (pj_fi G 2 1).toInt = (pj_fi H 171 16).toInt) (ht : ∀ j : Nat, (j : Int) < (pj_fi G 2 1).toInt → pj_ai G 3 j = pj_ai H 180 j) (hc : (pj_fi G 21 5).toInt = (pj_fi H 171 6).toInt) (hv : pj_fv G 6 0 = some (.ref 14)) (hb : pj_fi G 14 0 = pj_fi H 171 3) : (F_121tx G).1 = (F_197tx H).1 ∧ ((pj_fi (F_121tx G).2 21 5).toInt = (pj_fi (F_197tx H).2 171 6).toInt ∧ (mr_H G H → mr_H (F_121tx G).2 (F_197tx H).2) ∧ (mr_Sp G H → mr_Sp (F_121tx G).2 (F_197tx H).2) ∧ mr_np3 H (F_197tx H).2) ∧ ((1 ≤ (F_121tx G).1.toInt ∧ (pj_fi (F_121tx G).2 53 2).toInt = 0 ∧ (pj_fi (F_197tx H).2 171 30).toInt = 0 ∧ pj_fi (F_197tx H).2 171 7 = pj_fi H 171 7 + Int32.ofInt 1 ∧ (pj_fi (F_121tx G).2 21 5).toInt = (pj_fi G 21 5).toInt + (F_121tx G).1.toInt) ∨ ((F_121tx G).1.toInt ≤ 0 ∧ (pj_fi (F_121tx G).2 21 5).toInt = (pj_fi G 21 5).toInt ∧ pj_fi (F_121tx G).2 53 2 = pj_fi G 53 2 ∧ pj_fi (F_197tx H).2 171 30 = pj_fi H 171 30 ∧ pj_fi (F_197tx H).2 171 7 = pj_fi H 171 7)) := by
  have k17 : (((Int8.ofInt 17).toInt32)).toInt = 17 := by decide
  have k0 : (Int32.ofInt 0).toInt = 0 := by decide
  have k1 : (Int32.ofInt 1).toInt = 1 := by decide
  have cm : (Int32.ofInt (-1)).toInt = -1 := by decide
  have i0 : pj_Inv (pj_wv H 171 0 (.int (Int32.ofInt 0))) := pj_Inv_wi iH (ci := 12) rfl (fun q hq => by cases hq)
  obtain ⟨i1, kk1, r1, ⟨⟨x17, x18, x19⟩, x16⟩, y1, z1, w1, w2⟩ := fr_182etx (pj_wv H 171 0 (.int (Int32.ofInt 0))) i0 ((Int8.ofInt 17).toInt32) (by omega)
  have e16 : (pj_fi (pj_wv H 171 0 (.int (Int32.ofInt 0))) 171 16).toInt = (pj_fi G 2 1).toInt := by rw [pj_fi_wv_ne _ _ _ _ _ _ (by decide)]; exact hs.symm
  have b180 : ∀ j, pj_ai (F_182etx (pj_wv H 171 0 (.int (Int32.ofInt 0))) ((Int8.ofInt 17).toInt32)).2 180 j = pj_ai H 180 j := fun j => by rw [kk1.2.2 180 (by decide) j, pj_ai_wv]
  obtain ⟨iC, kC, c3, c4, l1, l2⟩ := fr_79x G hI ((Int8.ofInt 17).toInt32) (by omega)
  have rS : (0 : Int) ≤ (pj_fi G 2 1).toInt ∧ (pj_fi G 2 1).toInt ≤ 80 := hI.2.1 2 1 (0, 80) rfl
  have rB : (0 : Int) ≤ (pj_fi G 21 5).toInt ∧ (pj_fi G 21 5).toInt ≤ 6 := hI.2.1 21 5 (0, 6) rfl
  have sz : pj_fi (F_79x G ((Int8.ofInt 17).toInt32)) 2 1 = pj_fi G 2 1 := kC.1 (2, 1) (by decide)
  have nb : pj_fi (F_79x G ((Int8.ofInt 17).toInt32)) 21 5 = pj_fi G 21 5 := kC.1 (21, 5) (by decide)
  have kH : pj_kpt mr_WR H (pj_wv (F_182etx (pj_wv H 171 0 (.int (Int32.ofInt 0))) ((Int8.ofInt 17).toInt32)).2 171 22 (.int (Int32.ofInt 0))) := pj_kpt_v (pj_kpt_t (pj_kpt_v (pj_kpt_r _ _) rfl) (pj_kpt_s kk1 rfl)) rfl
  have eR : F_197tx H = pj_bd (F_195_0tx (pj_wv H 171 0 (.int (Int32.ofInt 0))) (Int32.ofInt 0)) (fun y58 G59 => cond (pj_c1 .ge y58 0) (L_197tx H 7 y58 (Int32.ofInt 0) G59) (y58, G59)) := by
    rw [F_197tx_e]
    simp only [pj_nm_x]
  have eR2 : F_195_0tx (pj_wv H 171 0 (.int (Int32.ofInt 0))) (Int32.ofInt 0) = cond (pj_c1 .le (F_182etx (pj_wv H 171 0 (.int (Int32.ofInt 0))) ((Int8.ofInt 17).toInt32)).1 0) (L_195_0tx (pj_wv H 171 0 (.int (Int32.ofInt 0))) (Int32.ofInt 0) 301 (F_182etx (pj_wv H 171 0 (.int (Int32.ofInt 0))) ((Int8.ofInt 17).toInt32)).1 (Int32.ofInt 1) (Int32.ofInt 0) (pj_wv (F_182etx (pj_wv H 171 0 (.int (Int32.ofInt 0))) ((Int8.ofInt 17).toInt32)).2 171 22 (.int (Int32.ofInt 0)))) (L_195_0tx (pj_wv H 171 0 (.int (Int32.ofInt 0))) (Int32.ofInt 0) 301 (F_182etx (pj_wv H 171 0 (.int (Int32.ofInt 0))) ((Int8.ofInt 17).toInt32)).1 (Int32.ofInt 1) (Int32.ofInt 1) (pj_wv (F_182etx (pj_wv H 171 0 (.int (Int32.ofInt 0))) ((Int8.ofInt 17).toInt32)).2 171 22 (.int (Int32.ofInt 0)))) := by
    rw [F_195_0tx_e]
    simp only [pj_nm_x, pj_bd_x]
  have eC : F_121tx G = pj_bd (F_92x (F_79x G ((Int8.ofInt 17).toInt32))) (fun y17 G18 => pj_bd (F_88tx G18) (fun y27 G28 => cond (pj_c1 .eq y27 (Int32.ofInt (-1))) (cond (pj_c1 .le y17 0) (y17, F_161x (pj_wv G28 21 5 (.int (pj_fi G28 21 5 + y17))) (Int32.ofInt 0)) (y17, F_161x (pj_wv G28 21 5 (.int (pj_fi G28 21 5 + y17))) (Int32.ofInt 1))) (F_162x G28 y27, G28))) := by
    rw [F_121tx_e]
    simp only [pj_nm_x]
  have eC2 : F_92x (F_79x G ((Int8.ofInt 17).toInt32)) = cond (pj_c1 .eq (F_80x (F_79x G ((Int8.ofInt 17).toInt32))) (Int32.ofInt (-1))) (L_92x (F_79x G ((Int8.ofInt 17).toInt32)) 8 (Int32.ofInt 0) (Int32.ofInt 0) (pj_fi (F_79x G ((Int8.ofInt 17).toInt32)) 21 5) (F_79x G ((Int8.ofInt 17).toInt32))) (L_92x (F_79x G ((Int8.ofInt 17).toInt32)) 8 (Int32.ofInt 0) (Int32.ofInt 1) (pj_fi (F_79x G ((Int8.ofInt 17).toInt32)) 21 5) (F_79x G ((Int8.ofInt 17).toInt32))) := by
    rw [F_92x_e]
    simp only [pj_nm_x]
  obtain ⟨-, -, pk1, pk2⟩ := fr_80x (F_79x G ((Int8.ofInt 17).toInt32)) iC
  obtain ⟨iP, kP, rP, xP⟩ := fr_92x (F_79x G ((Int8.ofInt 17).toInt32)) iC
  have bA : ∀ j, tx_ps G (F_79x G ((Int8.ofInt 17).toInt32)) j := fun j => tx_psk kC rfl j
  rw [eR, eC]
  clear eR eC
  generalize (F_182etx (pj_wv H 171 0 (.int (Int32.ofInt 0))) ((Int8.ofInt 17).toInt32)).2 = R1 at *
  generalize (F_182etx (pj_wv H 171 0 (.int (Int32.ofInt 0))) ((Int8.ofInt 17).toInt32)).1 = n at *
  have hn : (pj_fi (F_79x G ((Int8.ofInt 17).toInt32)) 2 1).toInt = n.toInt := by rw [sz]; omega
  have h0 : tx_RD (F_79x G ((Int8.ofInt 17).toInt32)) R1 := ⟨iC, i1, c4, by omega, by omega, by omega, fun j hj => by rw [kC.2.2 3 (by decide) j, b180]; exact ht j (by omega)⟩
  have i22 := tx_i22 i1 (Int32.ofInt 0) (by omega)
  have h1 := tx_wvR h0 i22 (by decide) (by decide)
  have m22 : (pj_fi (pj_wv R1 171 22 (.int (Int32.ofInt 0))) 171 22).toInt = 0 := by rw [pj_fi_wi i1.1 (ci := 12) rfl _, k0]
  have kC1 : pj_fi (F_79x G ((Int8.ofInt 17).toInt32)) 53 2 = pj_fi G 53 2 := kC.1 (53, 2) (by decide)
  have kV : pj_fv (F_79x G ((Int8.ofInt 17).toInt32)) 6 0 = pj_fv G 6 0 := kC.2.1.2 (6, 0) (by decide)
  have kB : pj_fi (F_79x G ((Int8.ofInt 17).toInt32)) 14 0 = pj_fi G 14 0 := kC.1 (14, 0) (by decide)
  generalize pj_wv R1 171 22 (.int (Int32.ofInt 0)) = R2 at *
  generalize hA : F_79x G ((Int8.ofInt 17).toInt32) = A at *
  have nb' : (pj_fi A 21 5).toInt = (pj_fi G 21 5).toInt := by rw [nb]
  have r5 : (pj_fi R2 171 6).toInt = (pj_fi G 21 5).toInt := by rw [show pj_fi R2 171 6 = pj_fi H 171 6 from kH.1 (171, 6) (by decide)]; exact hc.symm
  have hvA : pj_fv A 6 0 = some (.ref 14) := (kV).trans hv
  have hbA : pj_fi A 14 0 = pj_fi R2 171 3 := by rw [kB, kH.1 (171, 3) (by decide)]; exact hb
  have key : ∃ more : Int32, (more.toInt = 0 ∨ more.toInt = 1) ∧ F_92x A = L_92x A 8 (Int32.ofInt 0) more (pj_fi A 21 5) A ∧ F_195_0tx (pj_wv H 171 0 (.int (Int32.ofInt 0))) (Int32.ofInt 0) = L_195_0tx (pj_wv H 171 0 (.int (Int32.ofInt 0))) (Int32.ofInt 0) 301 n (Int32.ofInt 1) more R2 := by
    by_cases hn0 : n.toInt ≤ 0
    · have p := pk2 (by omega)
      refine ⟨Int32.ofInt 0, .inl k0, ?_, ?_⟩
      · rw [eC2, pj_b_eqT (show (F_80x A).toInt = (Int32.ofInt (-1)).toInt by omega), pj_cT]
      · rw [eR2, pj_b0_leT hn0, pj_cT]
    · have p := pk1 (by omega)
      have rt : (0 : Int) ≤ (pj_ai A 3 (pj_fi A 2 3).toInt.toNat).toInt := (iC.2.2.1 3 (80, 0, 255, 0, 0) rfl _ (by show _ < 80; omega)).1
      refine ⟨Int32.ofInt 1, .inr k1, ?_, ?_⟩
      · rw [eC2, pj_b_eqF (show ¬ (F_80x A).toInt = (Int32.ofInt (-1)).toInt by omega), pj_cF]
      · rw [eR2, pj_b0_leF (show 0 < n.toInt by omega), pj_cF]
  obtain ⟨more, hmore, eA, eB⟩ := key
  obtain ⟨k, hk⟩ : ∃ k : Nat, (pj_fi A 21 5).toInt + k = 7 := ⟨(7 - (pj_fi A 21 5).toInt).toNat, by omega⟩
  obtain ⟨is', R', z1, z2, z3, z4⟩ := tx_pel_14 A (pj_wv H 171 0 (.int (Int32.ofInt 0))) (Int32.ofInt 0) n (by decide) k 8 301 (Int32.ofInt 0) more (pj_fi A 21 5) (Int32.ofInt 1) more A R2 h1 hvA hbA rfl hmore k1 (by omega) (by omega) (by omega) (fun i hi => absurd hi (by omega)) (by omega) hk (by omega) (by omega)
  have kR2 : pj_kpt mr_WR H R' := pj_kpt_t kH (pj_kpt_s z2 rfl)
  rw [eB, z1, eA]
  rw [eA] at iP kP rP xP
  clear eC2 eR2 eA eB z1
  simp only [pj_bd_x]
  generalize L_92x A 8 (Int32.ofInt 0) more (pj_fi A 21 5) A = p at *
  obtain ⟨y, P⟩ := p
  dsimp only at *
  have st' : (is'.toInt = 1 ∧ tx_RD P R') ∨ (is'.toInt = 0 ∧ tx_ER P R') := z4.imp (fun q => ⟨q.1, q.2.1⟩) id
  have iR' : pj_Inv R' := by
    rcases st' with ⟨_, b⟩ | ⟨_, b⟩
    · exact b.2.1
    · exact b.2.1
  have s1 : (pj_fi P 2 1).toInt = n.toInt := by rw [kP.1 (2, 1) (by decide)]; exact hn
  have s2 : (pj_fi P 2 2).toInt = (pj_fi A 2 2).toInt := by rw [kP.1 (2, 2) (by decide)]
  have ft := tx_fault n ((Int8.ofInt 17).toInt32) is' (by omega) (by omega) s1 (by omega) (by omega) (by omega) st'
  clear x17 x18 x19 x16 y1 z1 w1 w2 e16 c3 c4 l1 l2 pk1 pk2 hmore hk m22 r1 hs ht b180
  obtain ⟨i2, k2, r2, -⟩ := fr_88tx P iP
  have f21 : pj_fi (F_88tx P).2 21 5 = pj_fi A 21 5 := by rw [k2.1 (21, 5) (by decide), kP.1 (21, 5) (by decide)]
  have f53 : pj_fi (F_88tx P).2 53 2 = pj_fi G 53 2 := by rw [k2.1 (53, 2) (by decide), kP.1 (53, 2) (by decide), kC1]
  have bK : ∀ j, tx_ps P (F_88tx P).2 j := fun j => tx_psk k2 rfl j
  have r22 := tx_r22 iR'
  obtain ⟨B, hB⟩ : ∃ B : Nat, (B : Int) = (pj_fi G 21 5).toInt := ⟨(pj_fi G 21 5).toInt.toNat, by omega⟩
  rcases ft with ⟨a1, a2, a3⟩ | ⟨a1, a2, a3⟩
  · rcases z4 with ⟨_, hRD, y1, y5, yd⟩ | ⟨b, _⟩
    · have x6 := xP hRD.2.2.1
      have nbP : (pj_fi P 21 5).toInt = (B : Int) := by rw [show pj_fi P 21 5 = pj_fi A 21 5 from kP.1 (21, 5) (by decide)]; omega
      have r5' : (pj_fi R' 171 6).toInt = (B : Int) := by rw [y5]; omega
      obtain ⟨V, c1, c2, c5, c6, c7, c8, c9, c10⟩ := mr_cpp H (F_189x R' n ((Int8.ofInt 17).toInt32) is') B 6 7 (Int32.ofInt 0) R' iR'.1 (by omega) (by omega) (by omega) (by omega) (by omega) (by omega)
      have f22 := c5 171 22 (by omega)
      have sK : (pj_fi (F_88tx P).2 21 5 + y).toInt = (B : Int) + y.toInt := by rw [f21, pj_addI (by omega) (by omega)]; omega
      have fin : ∀ Kf Ef : pj_G, (pj_fi Kf 21 5).toInt = (B : Int) + y.toInt → (∀ a j, pj_ai Kf a j = pj_ai (F_88tx P).2 a j) → (pj_fi Ef 171 6).toInt = (B : Int) + y.toInt → (∀ a j, pj_ai Ef a j = pj_ai V a j) → ((pj_fi Kf 21 5).toInt = (pj_fi Ef 171 6).toInt ∧ (mr_H G H → mr_H Kf Ef) ∧ (mr_Sp G H → mr_Sp Kf Ef) ∧ mr_np3 H Ef) := by
        intro Kf Ef q1 q2 q3 q4
        have old : ∀ j : Nat, (j : Int) < (B : Int) → tx_ps G Kf j := fun j hj => tx_pst (tx_pst (bA j) (z3 j (by omega))) (tx_pst (bK j) ⟨q2 26 j, q2 32 j⟩)
        have new : ∀ i : Nat, (i : Int) < y.toInt → tx_pd Kf R' (B + i) i := fun i hi => by
          have z := yd i (by omega)
          rw [show (pj_fi R2 171 6).toInt.toNat + i = B + i by omega] at z
          exact tx_pdk z (tx_pst (bK _) ⟨q2 26 _, q2 32 _⟩) (fun _ _ => rfl)
        refine ⟨by omega, fun hL b hb => ?_, fun hS b hb => ?_, fun j hj => by rw [q4, c9 j (by omega), kR2.2.2 179 (by decide)]⟩
        · rw [q4]
          by_cases qb : (b : Int) < (B : Int)
          · rw [(old b qb).2, c8 b (by omega), kR2.2.2 178 (by decide) b]
            exact hL b (by omega)
          · obtain ⟨i, rfl⟩ : ∃ i, b = B + i := ⟨b - B, by omega⟩
            rw [(c10 i (by omega) (by omega)).2]
            exact (new i (by omega)).2
        · rw [q4]
          by_cases qb : (b : Int) < (B : Int)
          · rw [(old b qb).1, c9 _ (by omega), kR2.2.2 179 (by decide)]
            exact hS b (by omega)
          · obtain ⟨i, rfl⟩ : ∃ i, b = B + i := ⟨b - B, by omega⟩
            rw [(c10 i (by omega) (by omega)).1]
            exact (new i (by omega)).1
      rw [pj_b_eqT (show (F_88tx P).1.toInt = (Int32.ofInt (-1)).toInt by omega), pj_cT, pj_b0_geT (show 0 ≤ (F_189x R' n ((Int8.ofInt 17).toInt32) is').toInt by omega), pj_cT, c1]
      obtain ⟨g1, g2⟩ := mr_fin_r c2
      have e22 : pj_fi V 171 22 = y := by rw [f22]; exact Int32.toInt_inj.mp y1.symm
      have wK : pj_fi (pj_wv (F_88tx P).2 21 5 (.int (pj_fi (F_88tx P).2 21 5 + y))) 21 5 = pj_fi (F_88tx P).2 21 5 + y := pj_fi_wi i2.1 (ci := 8) rfl _
      have wS := mr_sv i2.1 (a := 21) (ci := 8) (k := 5) rfl (pj_fi (F_88tx P).2 21 5 + y)
      by_cases ly : y.toInt ≤ 0
      · rw [pj_b0_leT ly, pj_cT, (mr_161 _).1, g1 (by rw [e22]; exact ly)]
        dsimp only
        refine ⟨e22.symm, fin _ _ (by rw [wK]; exact sK) (fun a j => pj_ai_wv _ _ _ _ _ _) (by rw [c6]; omega) (fun _ _ => rfl), .inr ⟨ly, by rw [wK]; omega, by rw [pj_fi_wv_ne _ _ _ _ _ _ (by decide)]; exact f53, by rw [c5 171 30 (by omega), kR2.1 (171, 30) (by decide)], by rw [c5 171 7 (by omega), kR2.1 (171, 7) (by decide)]⟩⟩
      · rw [pj_b0_leF (show 0 < y.toInt by omega), pj_cF, (mr_161 _).2]
        obtain ⟨h6, h7, h8, h9, h10⟩ := g2 (by rw [e22]; omega)
        dsimp only
        refine ⟨by rw [h6, e22], fin _ _ (by rw [pj_fi_wv_ne _ _ _ _ _ _ (by decide), wK]; exact sK) (fun a j => by rw [pj_ai_wv, pj_ai_wv]) (by rw [h8 6 (by decide) (by decide), c6]; omega) h7, .inl ⟨by omega, by rw [pj_fi_wi wS (a := 53) (ci := 4) (k := 2) rfl]; exact k0, h9, by rw [h10, c5 171 7 (by omega), kR2.1 (171, 7) (by decide)], by rw [pj_fi_wv_ne _ _ _ _ _ _ (by decide), wK]; omega⟩⟩
    · omega
  · rw [pj_b_eqF (show ¬ (F_88tx P).1.toInt = (Int32.ofInt (-1)).toInt by omega), pj_cF, pj_b0_geF (show (F_189x R' n ((Int8.ofInt 17).toInt32) is').toInt < 0 by omega), pj_cF]
    have e162 : F_162x (F_88tx P).2 (F_88tx P).1 = Int32.ofInt (-1) - (F_88tx P).1 := by rw [F_162x_e, pj_nm_e]
    have t162 : (Int32.ofInt (-1) - (F_88tx P).1).toInt = -1 - (F_88tx P).1.toInt := by rw [pj_subI (by omega) (by omega), cm]
    rw [e162]
    dsimp only
    have cnt : (pj_fi (F_88tx P).2 21 5).toInt = (pj_fi G 21 5).toInt := by rw [f21]; exact nb'
    have old : ∀ j : Nat, (j : Int) < (pj_fi G 21 5).toInt → tx_ps G (F_88tx P).2 j := fun j hj => tx_pst (tx_pst (bA j) (z3 j (by omega))) (bK j)
    refine ⟨Int32.toInt_inj.mp (t162.trans a3.symm), ⟨by rw [cnt, kR2.1 (171, 6) (by decide)]; exact hc, fun hL b hb => ?_, fun hS b hb => ?_, fun j _ => kR2.2.2 179 (by decide) j⟩, .inr ⟨mr_le0 t162 a2, cnt, f53, kR2.1 (171, 30) (by decide), kR2.1 (171, 7) (by decide)⟩⟩
    · rw [(old b (by omega)).2, kR2.2.2 178 (by decide) b]
      exact hL b (by omega)
    · rw [(old b (by omega)).1, kR2.2.2 179 (by decide)]
      exact hS b (by omega)
