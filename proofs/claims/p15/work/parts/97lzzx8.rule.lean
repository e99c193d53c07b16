theorem fr_RR480 {G : pj_G} (iG : pj_Inv G) (h1 : (pj_fi G 171 27).toInt ≤ (pj_fi G 171 17).toInt) (h2 : (pj_fi G 171 17).toInt ≤ (pj_fi G 171 18).toInt) : pj_Inv (RRx 480 1 (Int32.ofInt 0) G).2 ∧ pj_fi (RRx 480 1 (Int32.ofInt 0) G).2 171 26 = pj_fi G 171 26 ∧ ∀ j, pj_ai (RRx 480 1 (Int32.ofInt 0) G).2 182 j = pj_ai G 182 j := by
  have k0 : (Int32.ofInt 0).toInt = 0 := by decide
  have h17 := tx_r17 iG
  have h18 : (0 : Int) ≤ (pj_fi G 171 18).toInt ∧ (pj_fi G 171 18).toInt ≤ 80 := iG.2.1 171 18 (0, 80) rfl
  obtain ⟨v, G', -, y, -, i, k, -, e, eq⟩ := (pj_ihx_all 480).2 G (Int32.ofInt 0) iG (by decide) h1 h2 (by omega)
  rw [← eq]
  exact ⟨i, k.1 (171, 26) (by decide), k.2.2 182 (by decide)⟩
/-! THE RULE, TOLD ON BOTH SIDES -/
def pr_Q (C R : pj_G) : Prop := mr_Q C R ∧ pj_rb C 27 0 28 = (!pj_rb C 27 2 28)
theorem pr_cdm (f : Nat → Int32) : ∀ (m i j : Nat), i ≤ j → j < i + m → f j ∈ mr_cd f i m
  | 0, i, j, h1, h2 => absurd h2 (by omega)
  | m + 1, i, j, h1, h2 => by
    show f j ∈ f i :: mr_cd f (i + 1) m
    by_cases q : j = i
    · rw [q]
      exact List.mem_cons_self
    · exact List.mem_cons_of_mem _ (pr_cdm f m (i + 1) j (by omega) (by omega))
theorem pr_59 {G : pj_G} (iG : pj_Inv G) (hq : pj_rb G 27 0 28 = (!pj_rb G 27 2 28)) : (pj_fi (F_59x G) 27 1) = pj_fi G 27 3 ∧ (∀ j, mr_rc (F_59x G) j = pr_dr G j) ∧ pj_rb (F_59x G) 27 0 28 = (!pj_rb (F_59x G) 27 2 28) := by
  obtain ⟨i, k⟩ := fr_59x G iG
  have a28 : ∀ j, pj_ai (F_59x G) 28 j = pj_ai G 28 j := k.2.2 28 (by decide)
  have a29 : ∀ j, pj_ai (F_59x G) 29 j = pj_ai G 29 j := k.2.2 29 (by decide)
  have e : ∀ a b : Nat, (pj_rb G 27 2 28 = true → a = 28) → (pj_rb G 27 2 28 = false → a = 29) → (pj_rb G 27 0 28 = true → b = 28) → (pj_rb G 27 0 28 = false → b = 29) → F_59x G = pj_wv (pj_wv (pj_wv G 27 0 (.ref a)) 27 1 (.int (pj_fi G 27 3))) 27 2 (.ref b) := by
    intro a b h1 h2 h3 h4
    rw [F_59x_e]
    simp only [pj_nm_x]
    have f : ∀ v, pj_fi (pj_wv G 27 0 v) 27 3 = pj_fi G 27 3 := fun v => pj_fi_wv_ne _ _ _ _ _ _ (by decide)
    cases q0 : pj_rb G 27 0 28 with
    | true =>
      cases q2 : pj_rb G 27 2 28 with
      | true => rw [pj_cT, pj_cT, f, h1 q2, h3 q0]
      | false => rw [pj_cT, pj_cF, f, h2 q2, h3 q0]
    | false =>
      cases q2 : pj_rb G 27 2 28 with
      | true => rw [pj_cF, pj_cT, f, h1 q2, h4 q0]
      | false => rw [pj_cF, pj_cF, f, h2 q2, h4 q0]
  have fin : ∀ a b : Nat, (pj_rb G 27 2 28 = true → a = 28) → (pj_rb G 27 2 28 = false → a = 29) → (pj_rb G 27 0 28 = true → b = 28) → (pj_rb G 27 0 28 = false → b = 29) → pj_kd 27 7 0 = some [28, 29] → pj_kd 27 7 2 = some [28, 29] → pj_vok [28, 29] (.ref a) = true → pj_vok [28, 29] (.ref b) = true → Nat.beq a 28 = pj_rb G 27 2 28 → Nat.beq b 28 = pj_rb G 27 0 28 → (pj_fi (F_59x G) 27 1) = pj_fi G 27 3 ∧ (∀ j, mr_rc (F_59x G) j = pr_dr G j) ∧ pj_rb (F_59x G) 27 0 28 = (!pj_rb (F_59x G) 27 2 28) := by
    intro a b h1 h2 h3 h4 kd0 kd2 va vb na nb
    have ee := e a b h1 h2 h3 h4
    have i1 : pj_Inv (pj_wv G 27 0 (.ref a)) := pj_Inv_wv iG kd0 va rfl
    have r27 := pr_rC iG
    have i2 : pj_Inv (pj_wv (pj_wv G 27 0 (.ref a)) 27 1 (.int (pj_fi G 27 3))) := pj_Inv_wi i1 (ci := 7) rfl (fun q hq => by cases hq; exact r27)
    have v0 : pj_fv (F_59x G) 27 0 = some (.ref a) := by
      rw [ee, pj_fv_wv_ne _ _ _ _ _ _ (by decide), pj_fv_wv_ne _ _ _ _ _ _ (by decide)]
      exact tx_fvw iG.1 kd0 _
    have v2 : pj_fv (F_59x G) 27 2 = some (.ref b) := by
      rw [ee]
      exact tx_fvw i2.1 kd2 _
    have b0 : pj_rb (F_59x G) 27 0 28 = pj_rb G 27 2 28 := by
      unfold pj_rb at na ⊢
      rw [v0]
      exact na
    have b2 : pj_rb (F_59x G) 27 2 28 = pj_rb G 27 0 28 := by
      unfold pj_rb at nb ⊢
      rw [v2]
      exact nb
    refine ⟨?_, fun j => ?_, ?_⟩
    · rw [ee, pj_fi_wv_ne _ _ _ _ _ _ (by decide)]
      exact pj_fi_wi i1.1 (ci := 7) rfl _
    · unfold mr_rc pr_dr
      rw [b0, a28, a29]
    · rw [b0, b2, hq]
      cases pj_rb G 27 2 28 <;> rfl
  cases q2 : pj_rb G 27 2 28 with
  | true =>
    have q0 : pj_rb G 27 0 28 = false := by rw [hq, q2]; rfl
    exact fin 28 29 (fun _ => rfl) (fun z => absurd (q2.symm.trans z) (by decide)) (fun z => absurd (q0.symm.trans z) (by decide)) (fun _ => rfl) rfl rfl rfl rfl q2.symm q0.symm
  | false =>
    have q0 : pj_rb G 27 0 28 = true := by rw [hq, q2]; rfl
    exact fin 29 28 (fun z => absurd (q2.symm.trans z) (by decide)) (fun _ => rfl) (fun _ => rfl) (fun z => absurd (q0.symm.trans z) (by decide)) rfl rfl rfl rfl q2.symm q0.symm
theorem pr_cp (R0 : pj_G) (n is q : Int32) (t : Nat) (t80 : t ≤ 80) : ∀ (m fu : Nat) (v : Int32) (R : pj_G), pj_coks pj_tb R.1 = true → (pj_fi R 171 27).toInt = (t : Int) → 0 ≤ v.toInt → v.toInt ≤ (t : Int) → (t : Int) - v.toInt ≤ (m : Int) → m < fu → (∀ j : Nat, (j : Int) < v.toInt → pj_ai R 182 j = pj_ai R 183 j) → (L_201tx R0 fu n is q v R).1 = Int32.ofInt 0 ∧ pj_fi (L_201tx R0 fu n is q v R).2 171 26 = pj_fi R 171 26 ∧ ∀ j : Nat, j < t → pj_ai (L_201tx R0 fu n is q v R).2 182 j = pj_ai R 183 j := by
  have k1 : (Int32.ofInt 1).toInt = 1 := by decide
  intro m
  induction m with
  | zero =>
    intro fu v R hS hL h0 h1 hm hf hc
    obtain ⟨g, rfl⟩ : ∃ q, fu = q + 1 := ⟨fu - 1, by omega⟩
    rw [L_201tx_s0]
    simp only [pj_nm_x]
    rw [pj_b_geT (show (pj_fi R 171 27).toInt ≤ v.toInt by omega), pj_cT]
    exact ⟨rfl, rfl, fun j hj => hc j (by omega)⟩
  | succ m ih =>
    intro fu v R hS hL h0 h1 hm hf hc
    obtain ⟨g, rfl⟩ : ∃ q, fu = q + 1 := ⟨fu - 1, by omega⟩
    rw [L_201tx_s0]
    simp only [pj_nm_x]
    by_cases z : (t : Int) ≤ v.toInt
    · rw [pj_b_geT (show (pj_fi R 171 27).toInt ≤ v.toInt by omega), pj_cT]
      exact ⟨rfl, rfl, fun j hj => hc j (by omega)⟩
    · rw [pj_b_geF (show v.toInt < (pj_fi R 171 27).toInt by omega), pj_cF]
      have s : (v + Int32.ofInt 1).toInt = v.toInt + 1 := by rw [pj_addI (by omega) (by omega), k1]
      obtain ⟨a, b, c⟩ := ih g (v + Int32.ofInt 1) (pj_wa R 182 v.toInt.toNat (pj_ai R 183 v.toInt.toNat)) (mr_sa hS rfl _ _) (by rw [pj_fi_wa]; exact hL) (by omega) (by omega) (by omega) (by omega) (fun j hj => by
        rw [pj_ai_wa_ne _ 182 _ _ 183 _ (by decide)]
        by_cases e : j = v.toInt.toNat
        · rw [e, pj_ai_wa_eq hS rfl]
        · rw [pj_ai_wa_nj _ _ _ _ _ e]
          exact hc j (by omega))
      exact ⟨a, b.trans (pj_fi_wa _ _ _ _ _ _), fun j hj => (c j hj).trans (pj_ai_wa_ne _ _ _ _ _ _ (by decide))⟩
theorem mr_rule {G H : pj_G} (hI : pj_Inv G) (iH : pj_Inv H) (hs : (pj_fi G 2 1).toInt = (pj_fi H 171 16).toInt) (ht : ∀ j : Nat, (j : Int) < (pj_fi G 2 1).toInt → pj_ai G 3 j = pj_ai H 180 j) : (F_122tx G).1 = (F_201tx H).1 ∧ (pr_Q G H → pr_Q (F_122tx G).2 (F_201tx H).2) := by
  have k0 : (Int32.ofInt 0).toInt = 0 := by decide
  have k1 : (Int32.ofInt 1).toInt = 1 := by decide
  have km : (Int32.ofInt (-1)).toInt = -1 := by decide
  have k40 : (((Int8.ofInt 40).toInt32)).toInt = 40 := by decide
  have i0 : pj_Inv (pj_wv H 171 0 (.int (Int32.ofInt 0))) := pj_Inv_wi iH (ci := 12) rfl (fun q hq => by cases hq)
  obtain ⟨i1, kk1, r1, ⟨⟨x17, x18, x19⟩, x16⟩, y1, z1, w1, w2⟩ := fr_182etx (pj_wv H 171 0 (.int (Int32.ofInt 0))) i0 ((Int8.ofInt 40).toInt32) (by omega)
  have e16 : (pj_fi (pj_wv H 171 0 (.int (Int32.ofInt 0))) 171 16).toInt = (pj_fi G 2 1).toInt := by rw [pj_fi_wv_ne _ _ _ _ _ _ (by decide)]; exact hs.symm
  have b180 : ∀ j, pj_ai (F_182etx (pj_wv H 171 0 (.int (Int32.ofInt 0))) ((Int8.ofInt 40).toInt32)).2 180 j = pj_ai H 180 j := fun j => by rw [kk1.2.2 180 (by decide) j, pj_ai_wv]
  obtain ⟨iC, kC, c3, c4, l1, l2⟩ := fr_79x G hI ((Int8.ofInt 40).toInt32) (by omega)
  have rS : (0 : Int) ≤ (pj_fi G 2 1).toInt ∧ (pj_fi G 2 1).toInt ≤ 80 := hI.2.1 2 1 (0, 80) rfl
  have sz : pj_fi (F_79x G ((Int8.ofInt 40).toInt32)) 2 1 = pj_fi G 2 1 := kC.1 (2, 1) (by decide)
  -- the reference keeps its own rule's codes till it adopts
  have q26 : pj_fi (F_182etx (pj_wv H 171 0 (.int (Int32.ofInt 0))) ((Int8.ofInt 40).toInt32)).2 171 26 = pj_fi H 171 26 := by
    rw [show pj_fi (F_182etx (pj_wv H 171 0 (.int (Int32.ofInt 0))) ((Int8.ofInt 40).toInt32)).2 171 26 = pj_fi (pj_wv H 171 0 (.int (Int32.ofInt 0))) 171 26 from kk1.1 (171, 26) (by decide)]
    exact pj_fi_wv_ne _ _ _ _ _ _ (by decide)
  have q182 : ∀ j, pj_ai (F_182etx (pj_wv H 171 0 (.int (Int32.ofInt 0))) ((Int8.ofInt 40).toInt32)).2 182 j = pj_ai H 182 j := fun j => by rw [kk1.2.2 182 (by decide) j, pj_ai_wv]
  have kcC : pr_kc G (F_79x G ((Int8.ofInt 40).toInt32)) := pr_kc_k kC rfl
  have eC27 : pj_fi (F_79x G ((Int8.ofInt 40).toInt32)) 27 1 = pj_fi G 27 1 := kC.1 (27, 1) (by decide)
  rw [F_122tx_e, F_201tx_e]
  simp only [pj_nm_x, pj_bd_x]
  generalize (F_182etx (pj_wv H 171 0 (.int (Int32.ofInt 0))) ((Int8.ofInt 40).toInt32)).2 = R1 at *
  generalize (F_182etx (pj_wv H 171 0 (.int (Int32.ofInt 0))) ((Int8.ofInt 40).toInt32)).1 = n at *
  have hn : (pj_fi (F_79x G ((Int8.ofInt 40).toInt32)) 2 1).toInt = n.toInt := by rw [sz]; omega
  have h0 : tx_RD (F_79x G ((Int8.ofInt 40).toInt32)) R1 := ⟨iC, i1, c4, by omega, by omega, by omega, fun j hj => by rw [kC.2.2 3 (by decide) j, b180]; exact ht j (by omega)⟩
  generalize F_79x G ((Int8.ofInt 40).toInt32) = A at *
  -- both begin
  have iR2 : pj_Inv (pj_wv R1 171 27 (.int (Int32.ofInt 0))) := pj_Inv_wi i1 (ci := 12) rfl (fun q hq => by cases hq; exact ⟨by show (0 : Int) ≤ _; omega, by show _ ≤ (80 : Int); omega⟩)
  have h1 := tx_wvR h0 iR2 (by decide) (by decide)
  have m27 : (pj_fi (pj_wv R1 171 27 (.int (Int32.ofInt 0))) 171 27).toInt = 0 := by rw [pj_fi_wi i1.1 (a := 171) (ci := 12) (k := 27) rfl _, k0]
  have m19 : (pj_fi (pj_wv R1 171 27 (.int (Int32.ofInt 0))) 171 19).toInt = 0 := by rw [pj_fi_wv_ne _ _ _ _ _ _ (by decide)]; omega
  have m17 : (pj_fi (pj_wv R1 171 27 (.int (Int32.ofInt 0))) 171 17).toInt = 0 := by rw [pj_fi_wv_ne _ _ _ _ _ _ (by decide)]; omega
  have m26 : pj_fi (pj_wv R1 171 27 (.int (Int32.ofInt 0))) 171 26 = pj_fi H 171 26 := (pj_fi_wv_ne _ _ _ _ _ _ (by decide)).trans q26
  have m182 : ∀ j, pj_ai (pj_wv R1 171 27 (.int (Int32.ofInt 0))) 182 j = pj_ai H 182 j := fun j => (pj_ai_wv _ _ _ _ _ _).trans (q182 j)
  generalize pj_wv R1 171 27 (.int (Int32.ofInt 0)) = R2 at *
  have iB : pj_Inv (pj_wv A 27 3 (.int (Int32.ofInt 0))) := pj_Inv_wi iC (ci := 7) rfl (fun q hq => by cases hq; exact ⟨by show (0 : Int) ≤ _; omega, by show _ ≤ (40 : Int); omega⟩)
  have h2 := tx_wvC h1 iB (by decide)
  have n3 : (pj_fi (pj_wv A 27 3 (.int (Int32.ofInt 0))) 27 3).toInt = 0 := by rw [pj_fi_wi iC.1 (a := 27) (ci := 7) (k := 3) rfl _, k0]
  have n2 : ∀ k, pj_fi (pj_wv A 27 3 (.int (Int32.ofInt 0))) 2 k = pj_fi A 2 k := fun k => pj_fi_wv_ne _ _ _ _ _ _ (fun z => absurd z.1 (by decide))
  have n1 : pj_fi (pj_wv A 27 3 (.int (Int32.ofInt 0))) 27 1 = pj_fi A 27 1 := pj_fi_wv_ne _ _ _ _ _ _ (by decide)
  have kcB : pr_kc G (pj_wv A 27 3 (.int (Int32.ofInt 0))) := pr_kc_t kcC (pr_kcv _ _)
  obtain ⟨-, -, pk1, pk2⟩ := fr_80x (pj_wv A 27 3 (.int (Int32.ofInt 0))) iB
  have e58 : F_58x A = cond (pj_c1 .eq (F_80x (pj_wv A 27 3 (.int (Int32.ofInt 0)))) (Int32.ofInt (-1))) (pj_wv A 27 3 (.int (Int32.ofInt 0))) (F_62_0_0x (pj_wv A 27 3 (.int (Int32.ofInt 0))) (Int32.ofInt 0) (Int32.ofInt 0)) := by
    rw [F_58x_e]
    simp only [pj_nm_x]
  rw [n2, n2, n2] at pk1 pk2
  -- the class's end, from a state that was read
  have fail : ∀ (P : pj_G) (R' : pj_G) (is : Int32), pj_Inv P → (pj_fi P 2 1).toInt = n.toInt → (pj_fi P 2 2).toInt = (pj_fi A 2 2).toInt → (0 : Int) ≤ is.toInt ∧ is.toInt ≤ 1 → ((is.toInt = 1 ∧ tx_RD P R') ∨ (is.toInt = 0 ∧ tx_ER P R')) → pr_kc G P → pj_fi P 27 1 = pj_fi G 27 1 → pj_fi R' 171 26 = pj_fi H 171 26 → (∀ j, pj_ai R' 182 j = pj_ai H 182 j) → ((F_88tx P).1.toInt = -1 ∧ (F_189x R' n ((Int8.ofInt 40).toInt32) is).toInt = 0 ∧ is.toInt = 1) ∨ ((¬ (F_88tx P).1.toInt = -1 ∧ (F_189x R' n ((Int8.ofInt 40).toInt32) is).toInt < 0 ∧ F_162x (F_88tx P).2 (F_88tx P).1 = F_189x R' n ((Int8.ofInt 40).toInt32) is) ∧ (pr_Q G H → pr_Q (F_88tx P).2 R')) := by
    intro P R' is iP s1 s2 ris st kcP p1 r26 r182
    rcases tx_fault n ((Int8.ofInt 40).toInt32) is (by omega) (by omega) s1 (by omega) (by omega) ris st with ft | ⟨a1, a2, a3⟩
    · exact .inl ft
    · obtain ⟨i2, k2, r2, -⟩ := fr_88tx P iP
      refine .inr ⟨⟨a1, by omega, ?_⟩, fun hq => ?_⟩
      · rw [F_162x_e]
        simp only [pj_nm_x]
        apply Int32.toInt_inj.mp
        rw [pj_subI (by omega) (by omega), km]
        omega
      · obtain ⟨b0, b2, b3⟩ := (pr_kc_t kcP (pr_kc_k k2 rfl)) hq.2
        have f1 : pj_fi (F_88tx P).2 27 1 = pj_fi G 27 1 := (show pj_fi (F_88tx P).2 27 1 = pj_fi P 27 1 from k2.1 (27, 1) (by decide)).trans p1
        refine ⟨?_, by rw [b0, b2]; exact hq.2⟩
        rcases hq.1 with ⟨z1, z2⟩ | ⟨s, t, e1, e2, g1, g2, g3, g4, g5, g6, g7⟩
        · exact .inl ⟨by rw [f1]; exact z1, by rw [r26]; exact z2⟩
        · refine .inr ⟨s, t, by rw [f1]; exact e1, by rw [r26]; exact e2, g1, g2, g3, g4, ?_, fun j hj => by rw [b3]; exact g6 j hj, fun j hj => by rw [r182]; exact g7 j hj⟩
          rw [mr_cdc (f := mr_rc (F_88tx P).2) (g := mr_rc G) s 0 (fun j _ _ => b3 j), mr_cdc (f := pj_ai R' 182) (g := pj_ai H 182) t 0 (fun j _ _ => r182 j)]
          exact g5
  by_cases hn0 : n.toInt = 0
  · -- an empty text
    have p := pk2 (by omega)
    rw [e58, pj_b_eqT (show (F_80x (pj_wv A 27 3 (.int (Int32.ofInt 0)))).toInt = (Int32.ofInt (-1)).toInt by omega), pj_cT, pj_b0_eqT hn0, pj_cT]
    rcases fail (pj_wv A 27 3 (.int (Int32.ofInt 0))) R2 (Int32.ofInt 1) iB (by rw [n2]; exact hn) (by rw [n2]) (by omega) (.inl ⟨k1, h2⟩) kcB (n1.trans eC27) m26 m182 with ⟨f1, f2, f3⟩ | ⟨⟨f1, f2, f3⟩, f4⟩
    · rw [pj_b_eqT (show (F_88tx (pj_wv A 27 3 (.int (Int32.ofInt 0)))).1.toInt = (Int32.ofInt (-1)).toInt by omega), pj_cT, pj_b0_geT (show 0 ≤ (F_189x R2 n ((Int8.ofInt 40).toInt32) (Int32.ofInt 1)).toInt by omega), pj_cT]
      obtain ⟨i2, k2, r2, -⟩ := fr_88tx (pj_wv A 27 3 (.int (Int32.ofInt 0))) iB
      have i26 : pj_Inv (pj_wv R2 171 26 (.int (Int32.ofInt 0))) := pj_Inv_wi iR2 (ci := 12) rfl (fun q hq => by cases hq; exact ⟨by show (0 : Int) ≤ _; omega, by show _ ≤ (80 : Int); omega⟩)
      have w26 : (pj_fi (pj_wv R2 171 26 (.int (Int32.ofInt 0))) 171 26).toInt = 0 := by rw [pj_fi_wi iR2.1 (a := 171) (ci := 12) (k := 26) rfl _, k0]
      have w27 : (pj_fi (pj_wv R2 171 26 (.int (Int32.ofInt 0))) 171 27).toInt = ((0 : Nat) : Int) := by rw [pj_fi_wv_ne _ _ _ _ _ _ (by decide)]; omega
      obtain ⟨u1, u2, -⟩ := pr_cp H n (Int32.ofInt 1) (F_189x R2 n ((Int8.ofInt 40).toInt32) (Int32.ofInt 1)) 0 (by decide) 0 81 (Int32.ofInt 0) (pj_wv R2 171 26 (.int (Int32.ofInt 0))) i26.1 w27 (by omega) (by omega) (by omega) (by decide) (fun j hj => absurd hj (by omega))
      refine ⟨u1.symm, fun hq => ?_⟩
      obtain ⟨b0, b2, b3⟩ := (pr_kc_t kcB (pr_kc_k k2 rfl)) hq.2
      obtain ⟨t1, t2, t3⟩ := pr_59 i2 (by rw [b0, b2]; exact hq.2)
      have d3 : pj_fi (F_88tx (pj_wv A 27 3 (.int (Int32.ofInt 0)))).2 27 3 = pj_fi (pj_wv A 27 3 (.int (Int32.ofInt 0))) 27 3 := k2.1 (27, 3) (by decide)
      exact ⟨.inl ⟨by rw [t1, d3]; exact n3, by rw [u2]; exact w26⟩, t3⟩
    · rw [pj_b_eqF (show ¬ (F_88tx (pj_wv A 27 3 (.int (Int32.ofInt 0)))).1.toInt = (Int32.ofInt (-1)).toInt by omega), pj_cF, pj_b0_geF f2, pj_cF]
      exact ⟨f3, f4⟩
  · -- a text
    have p := pk1 (by omega)
    have rt : (0 : Int) ≤ (pj_ai A 3 (pj_fi A 2 3).toInt.toNat).toInt := (iC.2.2.1 3 (80, 0, 255, 0, 0) rfl _ (by show _ < 80; omega)).1
    have ai3 : ∀ j, pj_ai (pj_wv A 27 3 (.int (Int32.ofInt 0))) 3 j = pj_ai A 3 j := fun j => pj_ai_wv _ _ _ _ _ _
    rw [ai3] at p
    rw [e58, pj_b_eqF (show ¬ (F_80x (pj_wv A 27 3 (.int (Int32.ofInt 0)))).toInt = (Int32.ofInt (-1)).toInt by omega), pj_cF, pj_b0_eqF hn0, pj_cF]
    have n23 : (pj_fi (pj_wv A 27 3 (.int (Int32.ofInt 0))) 2 3).toInt = 0 := by rw [n2]; omega
    have hS : pr_S 0 (pj_wv A 27 3 (.int (Int32.ofInt 0))) R2 := ⟨h2, by rw [n2]; omega, by omega, by omega, m19⟩
    have r18 := h2.2.2.2.2.1
    rw [n2] at r18
    have r18b : (0 : Int) ≤ (pj_fi R2 171 18).toInt ∧ (pj_fi R2 171 18).toInt ≤ 80 := iR2.2.1 171 18 (0, 80) rfl
    obtain ⟨iW, kW, -, kcW⟩ := fr_62_0_0x (pj_wv A 27 3 (.int (Int32.ofInt 0))) iB (Int32.ofInt 0) (Int32.ofInt 0) (by decide) (by decide)
    have fR := fr_RR480 iR2 (by omega) (by omega)
    have s1 : (pj_fi (F_62_0_0x (pj_wv A 27 3 (.int (Int32.ofInt 0))) (Int32.ofInt 0) (Int32.ofInt 0)) 2 1).toInt = n.toInt := by
      rw [show pj_fi (F_62_0_0x (pj_wv A 27 3 (.int (Int32.ofInt 0))) (Int32.ofInt 0) (Int32.ofInt 0)) 2 1 = pj_fi (pj_wv A 27 3 (.int (Int32.ofInt 0))) 2 1 from kW.1 (2, 1) (by decide), n2]
      exact hn
    have s2 : (pj_fi (F_62_0_0x (pj_wv A 27 3 (.int (Int32.ofInt 0))) (Int32.ofInt 0) (Int32.ofInt 0)) 2 2).toInt = (pj_fi A 2 2).toInt := by
      rw [show pj_fi (F_62_0_0x (pj_wv A 27 3 (.int (Int32.ofInt 0))) (Int32.ofInt 0) (Int32.ofInt 0)) 2 2 = pj_fi (pj_wv A 27 3 (.int (Int32.ofInt 0))) 2 2 from kW.1 (2, 2) (by decide), n2]
    have kc62 := pr_kc_t kcB kcW
    have p1 : pj_fi (F_62_0_0x (pj_wv A 27 3 (.int (Int32.ofInt 0))) (Int32.ofInt 0) (Int32.ofInt 0)) 27 1 = pj_fi G 27 1 := (show pj_fi (F_62_0_0x (pj_wv A 27 3 (.int (Int32.ofInt 0))) (Int32.ofInt 0) (Int32.ofInt 0)) 27 1 = pj_fi (pj_wv A 27 3 (.int (Int32.ofInt 0))) 27 1 from kW.1 (27, 1) (by decide)).trans (n1.trans eC27)
    have X := pr_lv0_0 480 (Int32.ofInt 0) (Int32.ofInt 0) (Int32.ofInt 0) k0 k0 hS (by omega)
    generalize F_62_0_0x (pj_wv A 27 3 (.int (Int32.ofInt 0))) (Int32.ofInt 0) (Int32.ofInt 0) = P at *
    generalize (RRx 480 1 (Int32.ofInt 0) R2).2 = R' at *
    generalize (RRx 480 1 (Int32.ofInt 0) R2).1 = y at *
    obtain ⟨iR', f26, f182⟩ := fR
    rcases X with ⟨u1, cs, rs, hP, hsem⟩ | ⟨u0, hE⟩
    · rw [pj_b0_eqF (show ¬ y.toInt = 0 by omega), pj_cF]
      rcases fail P R' (Int32.ofInt 1) iW s1 s2 (by omega) (.inl ⟨k1, hP.2.1.1⟩) kc62 p1 (f26.trans m26) (fun j => (f182 j).trans (m182 j)) with ⟨f1, f2, f3⟩ | ⟨⟨f1, f2, f3⟩, f4⟩
      · rw [pj_b_eqT (show (F_88tx P).1.toInt = (Int32.ofInt (-1)).toInt by omega), pj_cT, pj_b0_geT (show 0 ≤ (F_189x R' n ((Int8.ofInt 40).toInt32) (Int32.ofInt 1)).toInt by omega), pj_cT]
        obtain ⟨i2, k2, r2, -⟩ := fr_88tx P iW
        obtain ⟨d, r, a1, a2, a3, a4, a5, a6, a7, a8⟩ := hP.2.2.1
        have d0 : d = 0 := by omega
        have r0 : r = 0 := by omega
        subst d0
        subst r0
        have r27 := pr_rR iR'
        have c27 := pr_rC iW
        have i26 : pj_Inv (pj_wv R' 171 26 (.int (pj_fi R' 171 27))) := pj_Inv_wi iR' (ci := 12) rfl (fun q hq => by cases hq; exact r27)
        have w26 : pj_fi (pj_wv R' 171 26 (.int (pj_fi R' 171 27))) 171 26 = pj_fi R' 171 27 := pj_fi_wi iR'.1 (a := 171) (ci := 12) (k := 26) rfl _
        have w27 : (pj_fi (pj_wv R' 171 26 (.int (pj_fi R' 171 27))) 171 27).toInt = (rs.length : Int) := by rw [pj_fi_wv_ne _ _ _ _ _ _ (by decide)]; omega
        obtain ⟨v1, v2, v3⟩ := pr_cp H n (Int32.ofInt 1) (F_189x R' n ((Int8.ofInt 40).toInt32) (Int32.ofInt 1)) rs.length (by omega) 80 81 (Int32.ofInt 0) (pj_wv R' 171 26 (.int (pj_fi R' 171 27))) i26.1 w27 (by omega) (by omega) (by omega) (by decide) (fun j hj => absurd hj (by omega))
        refine ⟨v1.symm, fun hq => ?_⟩
        obtain ⟨b0, b2, b3⟩ := (pr_kc_t kc62 (pr_kc_k k2 rfl)) hq.2
        obtain ⟨t1, t2, t3⟩ := pr_59 i2 (by rw [b0, b2]; exact hq.2)
        have d3 : pj_fi (F_88tx P).2 27 3 = pj_fi P 27 3 := k2.1 (27, 3) (by decide)
        have drk : ∀ j, pr_dr (F_88tx P).2 j = pr_dr P j := pr_drk (k2.2.1.2 (27, 2) (by decide)) (k2.2.2 28 (by decide)) (k2.2.2 29 (by decide))
        have eC : mr_cd (mr_rc (F_59x (F_88tx P).2)) 0 cs.length = cs := (mr_cdc (f := mr_rc (F_59x (F_88tx P).2)) (g := pr_dr P) cs.length 0 (fun j _ _ => (t2 j).trans (drk j))).trans a7
        have eR : mr_cd (pj_ai (L_201tx H 81 n (Int32.ofInt 1) (F_189x R' n ((Int8.ofInt 40).toInt32) (Int32.ofInt 1)) (Int32.ofInt 0) (pj_wv R' 171 26 (.int (pj_fi R' 171 27)))).2 182) 0 rs.length = rs := (mr_cdc (f := pj_ai (L_201tx H 81 n (Int32.ofInt 1) (F_189x R' n ((Int8.ofInt 40).toInt32) (Int32.ofInt 1)) (Int32.ofInt 0) (pj_wv R' 171 26 (.int (pj_fi R' 171 27)))).2 182) (g := pj_ai R' 183) rs.length 0 (fun j _ h2 => (v3 j (by omega)).trans (pj_ai_wv _ _ _ _ _ _))).trans a8
        have ne1 : 1 ≤ cs.length := by
          rcases cs with _ | ⟨c, cs⟩
          · obtain ⟨v, hv⟩ := hsem (fun _ => 0)
            have := (hv []).1
            cases this
          · show 1 ≤ cs.length + 1
            omega
        have ne2 : 1 ≤ rs.length := by
          rcases rs with _ | ⟨c, rs⟩
          · obtain ⟨v, hv⟩ := hsem (fun _ => 0)
            have := (hv []).2
            cases this
          · show 1 ≤ rs.length + 1
            omega
        refine ⟨.inr ⟨cs.length, rs.length, by rw [t1, d3]; omega, by rw [v2, w26]; omega, ne1, ne2, by omega, by omega, ?_, fun j hj => ?_, fun j hj => ?_⟩, t3⟩
        · rw [eC, eR]
          exact fun th => by
            obtain ⟨v, hv⟩ := hsem th
            exact ⟨v, hv⟩
        · have mm := pr_cdm (mr_rc (F_59x (F_88tx P).2)) cs.length 0 j (by omega) (by omega)
          rw [eC] at mm
          exact hP.2.2.2.1 _ mm
        · have mm := pr_cdm (pj_ai (L_201tx H 81 n (Int32.ofInt 1) (F_189x R' n ((Int8.ofInt 40).toInt32) (Int32.ofInt 1)) (Int32.ofInt 0) (pj_wv R' 171 26 (.int (pj_fi R' 171 27)))).2 182) rs.length 0 j (by omega) (by omega)
          rw [eR] at mm
          exact hP.2.2.2.2.1 _ mm
      · rw [pj_b_eqF (show ¬ (F_88tx P).1.toInt = (Int32.ofInt (-1)).toInt by omega), pj_cF, pj_b0_geF f2, pj_cF]
        exact ⟨f3, f4⟩
    · rw [pj_b0_eqT u0, pj_cT]
      rcases fail P R' (Int32.ofInt 0) iW s1 s2 (by omega) (.inr ⟨k0, hE⟩) kc62 p1 (f26.trans m26) (fun j => (f182 j).trans (m182 j)) with ⟨f1, f2, f3⟩ | ⟨⟨f1, f2, f3⟩, f4⟩
      · exact absurd f3 (by omega)
      · rw [pj_b_eqF (show ¬ (F_88tx P).1.toInt = (Int32.ofInt (-1)).toInt by omega), pj_cF, pj_b0_geF f2, pj_cF]
        exact ⟨f3, f4⟩
