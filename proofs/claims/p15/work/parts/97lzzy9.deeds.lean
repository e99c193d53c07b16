/-! A DEED IS NOTED AND HELD, ON BOTH SIDES -/
theorem mr_34f (G : pj_G) : F_34nx G (Int32.ofInt 0) = G := by
  rw [F_34nx_e, pj_b0_eqT (show (Int32.ofInt 0).toInt = 0 by decide), pj_cT]
theorem mr_34t {G : pj_G} (iG : pj_Inv G) : (pj_fi (F_34nx G (Int32.ofInt 1)) 53 1).toInt = ((pj_fi G 53 1).toInt + 1) % 16 ∧ ((pj_fi G 53 2).toInt ≤ 14 → (pj_fi (F_34nx G (Int32.ofInt 1)) 53 2).toInt = (pj_fi G 53 2).toInt + 1) ∧ ((pj_fi G 53 2).toInt = 15 → (pj_fi (F_34nx G (Int32.ofInt 1)) 53 2).toInt = 15) ∧ (∀ a k, a ≠ 53 → pj_fi (F_34nx G (Int32.ofInt 1)) a k = pj_fi G a k) ∧ ∀ a j, pj_ai (F_34nx G (Int32.ofInt 1)) a j = pj_ai G a j := by
  have k1 : (Int32.ofInt 1).toInt = 1 := by decide
  have k15 : (((Int8.ofInt 15).toInt32)).toInt = 15 := by decide
  have r1 : (0 : Int) ≤ (pj_fi G 53 1).toInt ∧ (pj_fi G 53 1).toInt ≤ 15 := iG.2.1 53 1 (0, 15) rfl
  have r2 : (0 : Int) ≤ (pj_fi G 53 2).toInt ∧ (pj_fi G 53 2).toInt ≤ 15 := iG.2.1 53 2 (0, 15) rfl
  obtain ⟨i, k, -, e⟩ := fr_34nx G iG (Int32.ofInt 1) (by decide)
  obtain ⟨e1, e2, e3⟩ := e (by omega)
  have s : (pj_fi G 53 2 + Int32.ofInt 1).toInt = (pj_fi G 53 2).toInt + 1 := by rw [pj_addI (by omega) (by omega), k1]
  refine ⟨e1, ?_, ?_, fun a m ha => k.1 (a, m) (fun hm => by
    have z := List.all_eq_true.mp (show kc_34nx.1.all (fun q => Nat.beq q.1 53) = true from rfl) _ hm
    exact ha (Nat.eq_of_beq_eq_true z)), fun a j => k.2.2 a (fun hm => by cases hm) j⟩
  · intro h
    have f : pj_fi (F_34nx G (Int32.ofInt 1)) 53 2 = (if (((Int8.ofInt 15).toInt32)) < pj_fi G 53 2 + Int32.ofInt 1 then (((Int8.ofInt 15).toInt32)) else pj_fi G 53 2 + Int32.ofInt 1) := by
      rw [F_34nx_e, pj_b0_eqF (show ¬ (Int32.ofInt 1).toInt = 0 by omega), pj_cF]
      simp only [pj_nm_x]
      exact pj_fi_wi (mr_sv iG.1 (show pj_kd 53 4 1 = some [] from rfl) _) (a := 53) (ci := 4) (k := 2) rfl _
    rw [f, if_neg (show ¬ (((Int8.ofInt 15).toInt32)) < pj_fi G 53 2 + Int32.ofInt 1 by rw [Int32.lt_iff_toInt_lt]; omega), s]
  · intro h
    have f : pj_fi (F_34nx G (Int32.ofInt 1)) 53 2 = (if (((Int8.ofInt 15).toInt32)) < pj_fi G 53 2 + Int32.ofInt 1 then (((Int8.ofInt 15).toInt32)) else pj_fi G 53 2 + Int32.ofInt 1) := by
      rw [F_34nx_e, pj_b0_eqF (show ¬ (Int32.ofInt 1).toInt = 0 by omega), pj_cF]
      simp only [pj_nm_x]
      exact pj_fi_wi (mr_sv iG.1 (show pj_kd 53 4 1 = some [] from rfl) _) (a := 53) (ci := 4) (k := 2) rfl _
    rw [f, if_pos (show (((Int8.ofInt 15).toInt32)) < pj_fi G 53 2 + Int32.ofInt 1 by rw [Int32.lt_iff_toInt_lt]; omega), k15]
/-- the oldest is dropped -/
theorem mr_216l (R0 : pj_G) (an : Int32) : ∀ (m fu : Nat) (v : Int32) (R : pj_G), pj_coks pj_tb R.1 = true → 0 ≤ v.toInt → v.toInt ≤ 480 → 480 - v.toInt ≤ (m : Int) → m < fu → ∃ V : pj_G, L_216x R0 an fu v R = (an, pj_wv V 171 30 (.int (pj_fi V 171 30 - Int32.ofInt 1))) ∧ pj_coks pj_tb V.1 = true ∧ (∀ a k, pj_fi V a k = pj_fi R a k) ∧ (∀ a j, a ≠ 186 → pj_ai V a j = pj_ai R a j) ∧ (∀ j : Nat, v.toInt ≤ (j : Int) → j < 480 → pj_ai V 186 j = pj_ai R 186 (j + 32)) ∧ (∀ j : Nat, (j : Int) < v.toInt → pj_ai V 186 j = pj_ai R 186 j) := by
  have k1 : (Int32.ofInt 1).toInt = 1 := by decide
  have k32 : (((Int8.ofInt 32).toInt32)).toInt = 32 := by decide
  have k480 : ((Int16.ofInt 480).toInt32).toInt = 480 := by decide
  intro m
  induction m with
  | zero =>
    intro fu v R hS h0 h1 hm hf
    obtain ⟨g, rfl⟩ : ∃ q, fu = q + 1 := ⟨fu - 1, by omega⟩
    rw [L_216x_s0, pj_b_geT (show ((Int16.ofInt 480).toInt32).toInt ≤ v.toInt by omega), pj_cT]
    simp only [pj_nm_x]
    exact ⟨R, rfl, hS, fun _ _ => rfl, fun _ _ _ => rfl, fun j h2 h3 => absurd h2 (by omega), fun _ _ => rfl⟩
  | succ m ih =>
    intro fu v R hS h0 h1 hm hf
    obtain ⟨g, rfl⟩ : ∃ q, fu = q + 1 := ⟨fu - 1, by omega⟩
    rw [L_216x_s0]
    simp only [pj_nm_x]
    by_cases z : 480 ≤ v.toInt
    · rw [pj_b_geT (show ((Int16.ofInt 480).toInt32).toInt ≤ v.toInt by omega), pj_cT]
      exact ⟨R, rfl, hS, fun _ _ => rfl, fun _ _ _ => rfl, fun j h2 h3 => absurd h2 (by omega), fun _ _ => rfl⟩
    · rw [pj_b_geF (show v.toInt < ((Int16.ofInt 480).toInt32).toInt by omega), pj_cF]
      have s : (v + Int32.ofInt 1).toInt = v.toInt + 1 := by rw [pj_addI (by omega) (by omega), k1]
      have s2 : (v + ((Int8.ofInt 32).toInt32)).toInt = v.toInt + 32 := by rw [pj_addI (by omega) (by omega), k32]
      have n2 : (v + ((Int8.ofInt 32).toInt32)).toInt.toNat = v.toInt.toNat + 32 := by omega
      obtain ⟨V, a1, a2, a3, a4, a5, a6⟩ := ih g (v + Int32.ofInt 1) (pj_wa R 186 v.toInt.toNat (pj_ai R 186 (v + ((Int8.ofInt 32).toInt32)).toInt.toNat)) (mr_sa hS rfl _ _) (by omega) (by omega) (by omega) (by omega)
      refine ⟨V, a1, a2, fun a k => (a3 a k).trans (pj_fi_wa _ _ _ _ _ _), fun a j h => (a4 a j h).trans (pj_ai_wa_ne _ _ _ _ _ _ h), fun j h2 h3 => ?_, fun j hj => (a6 j (by omega)).trans (pj_ai_wa_nj _ _ _ _ _ (by omega))⟩
      by_cases e : j = v.toInt.toNat
      · subst e
        rw [a6 _ (by omega), pj_ai_wa_eq hS rfl, n2]
      · rw [a5 j (by omega) h3]
        exact pj_ai_wa_nj _ _ _ _ _ (by omega)
theorem mr_216 {R : pj_G} (iR : pj_Inv R) (hU : (pj_fi R 171 30).toInt ≤ 15) (an : Int32) : (F_216x R an).1 = an ∧ ((pj_fi R 171 30).toInt ≤ 14 → (pj_fi (F_216x R an).2 171 30).toInt = (pj_fi R 171 30).toInt + 1 ∧ ∀ j, pj_ai (F_216x R an).2 186 j = pj_ai R 186 j) ∧ ((pj_fi R 171 30).toInt = 15 → (pj_fi (F_216x R an).2 171 30).toInt = 15 ∧ ∀ j, j < 480 → pj_ai (F_216x R an).2 186 j = pj_ai R 186 (j + 32)) ∧ (∀ k, k ≠ 30 → pj_fi (F_216x R an).2 171 k = pj_fi R 171 k) ∧ ∀ a j, a ≠ 186 → pj_ai (F_216x R an).2 a j = pj_ai R a j := by
  have k1 : (Int32.ofInt 1).toInt = 1 := by decide
  have k0 : (Int32.ofInt 0).toInt = 0 := by decide
  have k15 : (((Int8.ofInt 15).toInt32)).toInt = 15 := by decide
  have r0 : (0 : Int) ≤ (pj_fi R 171 30).toInt ∧ (pj_fi R 171 30).toInt ≤ 16 := iR.2.1 171 30 (0, 16) rfl
  have s : (pj_fi R 171 30 + Int32.ofInt 1).toInt = (pj_fi R 171 30).toInt + 1 := by rw [pj_addI (by omega) (by omega), k1]
  have e30 : pj_fi (pj_wv R 171 30 (.int (pj_fi R 171 30 + Int32.ofInt 1))) 171 30 = pj_fi R 171 30 + Int32.ofInt 1 := pj_fi_wi iR.1 (a := 171) (ci := 12) (k := 30) rfl _
  rw [F_216x_e]
  simp only [pj_nm_x]
  by_cases q : (pj_fi R 171 30).toInt ≤ 14
  · rw [pj_b_leT (show (pj_fi R 171 30 + Int32.ofInt 1).toInt ≤ (((Int8.ofInt 15).toInt32)).toInt by omega), pj_cT]
    refine ⟨rfl, fun _ => ⟨?_, fun j => pj_ai_wv _ _ _ _ _ _⟩, fun h => absurd h (by omega), fun k hk => pj_fi_wv_ne _ _ _ _ _ _ (fun z => hk z.2), fun a j _ => pj_ai_wv _ _ _ _ _ _⟩
    rw [e30]
    exact s
  · rw [pj_b_leF (show (((Int8.ofInt 15).toInt32)).toInt < (pj_fi R 171 30 + Int32.ofInt 1).toInt by omega), pj_cF]
    obtain ⟨V, a1, a2, a3, a4, a5, a6⟩ := mr_216l R an 480 481 (Int32.ofInt 0) (pj_wv R 171 30 (.int (pj_fi R 171 30 + Int32.ofInt 1))) (mr_sv iR.1 (show pj_kd 171 12 30 = some [] from rfl) _) (by omega) (by omega) (by omega) (by decide)
    rw [a1]
    refine ⟨rfl, fun h => absurd h q, fun _ => ⟨?_, fun j hj => ?_⟩, fun k hk => ?_, fun a j ha => ?_⟩
    · rw [pj_fi_wi a2 (a := 171) (ci := 12) (k := 30) rfl, a3, e30, pj_subI (by omega) (by omega), s, k1]
      omega
    · rw [pj_ai_wv, a5 j (by omega) hj, pj_ai_wv]
    · rw [pj_fi_wv_ne _ _ _ _ _ _ (fun z => hk z.2), a3, pj_fi_wv_ne _ _ _ _ _ _ (fun z => hk z.2)]
    · rw [pj_ai_wv, a4 a j ha, pj_ai_wv]
/-- a deed: it is noted, it is done or not, it is held -/
theorem mr_noted {B kc : Int} {C R : pj_G} (iC : pj_Inv C) (iR : pj_Inv R) (hU15 : (pj_fi R 171 30).toInt ≤ 15) (hS : mr_S B kc C R) (hU : mr_U B kc C R) : ∃ n : Nat, n < 16 ∧ F_33nx C = mr_bec (57 + 6 * n) 21 C ∧ mr_S B kc (F_33nx C) (F_215x (pj_wv R 171 0 (.int (Int32.ofInt 0)))) ∧ mr_Up B kc (F_33nx C) (F_215x (pj_wv R 171 0 (.int (Int32.ofInt 0)))) ∧ (∀ k, k ≠ 0 → pj_fi (F_215x (pj_wv R 171 0 (.int (Int32.ofInt 0)))) 171 k = pj_fi R 171 k) ∧ (∀ a j, a ≠ 186 → pj_ai (F_215x (pj_wv R 171 0 (.int (Int32.ofInt 0)))) a j = pj_ai R a j) := by
  have k0 : (Int32.ofInt 0).toInt = 0 := by decide
  have r1 : (0 : Int) ≤ (pj_fi C 53 1).toInt ∧ (pj_fi C 53 1).toInt ≤ 15 := iC.2.1 53 1 (0, 15) rfl
  have r0 : (0 : Int) ≤ (pj_fi R 171 30).toInt ∧ (pj_fi R 171 30).toInt ≤ 16 := iR.2.1 171 30 (0, 16) rfl
  have rb : (0 : Int) ≤ (pj_fi C 21 0).toInt ∧ (pj_fi C 21 0).toInt ≤ 6 := iC.2.1 21 0 (0, 6) rfl
  have rp : (0 : Int) ≤ (pj_fi C 21 5).toInt ∧ (pj_fi C 21 5).toInt ≤ 6 := iC.2.1 21 5 (0, 6) rfl
  obtain ⟨n, hn⟩ : ∃ n : Nat, (pj_fi C 53 1).toInt = (n : Int) := ⟨(pj_fi C 53 1).toInt.toNat, by omega⟩
  obtain ⟨m, hm⟩ : ∃ m : Nat, (pj_fi R 171 30).toInt = (m : Int) := ⟨(pj_fi R 171 30).toInt.toNat, by omega⟩
  have i0 : pj_Inv (pj_wv R 171 0 (.int (Int32.ofInt 0))) := pj_Inv_wi iR (ci := 12) rfl (fun q hq => by cases hq)
  have e30 : pj_fi (pj_wv R 171 0 (.int (Int32.ofInt 0))) 171 30 = pj_fi R 171 30 := pj_fi_wv_ne _ _ _ _ _ _ (by decide)
  have eN : F_33nx C = mr_bec (57 + 6 * n) 21 C := mr_note n (by omega) hn
  obtain ⟨V, z1, z2, z3, z4, z5, z6⟩ := mr_usl (pj_wv R 171 0 (.int (Int32.ofInt 0))) (32 * m) 0 32 33 (Int32.ofInt 0) (pj_wv R 171 0 (.int (Int32.ofInt 0))) i0.1 (by rw [e30]; omega) (by omega) (by omega) (by omega) (by decide)
  have eP : F_215x (pj_wv R 171 0 (.int (Int32.ofInt 0))) = V := by
    rw [F_215x_e]
    exact z1
  refine ⟨n, by omega, eN, ?_, ?_, ?_, ?_⟩
  · rw [eN, eP]
    have f0 : pj_fi (mr_bec (57 + 6 * n) 21 C) 21 0 = pj_fi C 21 0 := mr_bec_f _ _ _ _ _ (by omega)
    have f5 : pj_fi (mr_bec (57 + 6 * n) 21 C) 21 5 = pj_fi C 21 5 := mr_bec_f _ _ _ _ _ (by omega)
    unfold mr_S
    rw [f0, f5]
    exact mr_rowR rb.2 rp.2 (mr_rowu (f := 21) (mr_stk (k := n) (by omega)) mr_st21 (by omega) hS) (fun k hk => (z4 179 _ (by decide)).trans (pj_ai_wv _ _ _ _ _ _))
  · rw [eN, eP]
    exact mr_Un iC hS hU n (by omega) hn (by rw [z3, e30]) m hm (fun k hk => (z5 k (by omega) hk).trans (pj_ai_wv _ _ _ _ _ _)) (fun j hj => (z6 j (by omega)).trans (pj_ai_wv _ _ _ _ _ _))
  · intro k hk
    rw [eP, z3]
    exact pj_fi_wv_ne _ _ _ _ _ _ (fun z => hk z.2)
  · intro a j ha
    rw [eP, z4 a j ha]
    exact pj_ai_wv _ _ _ _ _ _
theorem mr_cUk {W : pj_KT} {C C' : pj_G} (k : pj_kpt W C C') (w : (W.1.all (fun q => (Nat.ble q.1 56 || Nat.ble 153 q.1) && !(pj_mF [(53, 1), (53, 2), (21, 0), (21, 5)] q.1 q.2)) && W.2.2.all (fun a => Nat.ble a 56 || Nat.ble 153 a)) = true) : mr_cU C C' := by
  rw [Bool.and_eq_true] at w
  have f : ∀ q : Nat × Nat, pj_mF [(53, 1), (53, 2), (21, 0), (21, 5)] q.1 q.2 = true → q ∉ W.1 := fun q hq hm => by
    have z := List.all_eq_true.mp w.1 q hm
    rw [Bool.and_eq_true, hq] at z
    cases z.2
  have g : ∀ a m, 57 ≤ a → a ≤ 152 → (a, m) ∉ W.1 := fun a m ha hb hm => by
    have z := List.all_eq_true.mp w.1 (a, m) hm
    rw [Bool.and_eq_true, Bool.or_eq_true] at z
    rcases z.1 with z1 | z1
    · have z1 : a ≤ 56 := Nat.le_of_ble_eq_true z1
      omega
    · have z1 : 153 ≤ a := Nat.le_of_ble_eq_true z1
      omega
  have v : ∀ a, 57 ≤ a → a ≤ 152 → a ∉ W.2.2 := fun a ha hb hm => by
    have z := List.all_eq_true.mp w.2 a hm
    rw [Bool.or_eq_true] at z
    rcases z with z1 | z1
    · have z1 : a ≤ 56 := Nat.le_of_ble_eq_true z1
      omega
    · have z1 : 153 ≤ a := Nat.le_of_ble_eq_true z1
      omega
  exact ⟨by rw [k.1 (53, 1) (f _ rfl)], by rw [k.1 (53, 2) (f _ rfl)], by rw [k.1 (21, 0) (f _ rfl)], by rw [k.1 (21, 5) (f _ rfl)], fun i hi => ⟨k.1 (57 + 6 * i, 7) (g _ _ (by omega) (by omega)), fun x h1 h5 j => k.2.2 (57 + 6 * i + x) (v _ (by omega) (by omega)) j⟩⟩
theorem mr_rUk {W : pj_KT} {R R' : pj_G} (k : pj_kpt W R R') (w : (W.1.all (fun q => !(pj_mF [(171, 30)] q.1 q.2)) && W.2.2.all (fun a => !(pj_mN [186] a))) = true) : mr_rU R R' := by
  rw [Bool.and_eq_true] at w
  exact ⟨by rw [k.1 (171, 30) (mr_nF w.1 _ rfl)], k.2.2 186 (mr_nA w.2 _ rfl)⟩
theorem mr_held {B kc : Int} {C R : pj_G} (iC : pj_Inv C) (iR : pj_Inv R) (hU15 : (pj_fi R 171 30).toInt ≤ 15) (hS : mr_S B kc C R) (hU : mr_Up B kc C R) (an : Int32) : mr_S B kc (F_34nx C (Int32.ofInt 1)) (F_216x R an).2 ∧ mr_U B kc (F_34nx C (Int32.ofInt 1)) (F_216x R an).2 := by
  obtain ⟨c1, c2, c3, cf, ca⟩ := mr_34t iC
  obtain ⟨-, r1, r2, rf, ra⟩ := mr_216 iR hU15 an
  exact ⟨mr_Sf hS iC (cf _ _ (by decide)) (cf _ _ (by decide)) (cf _ _ (by decide)) (fun a j _ _ => ca a j) (fun j _ => ra 179 j (by decide)), mr_Uh iC hU c1 c2 c3 cf ca r1 r2⟩
/-- what is alike stays so where only the state is written -/
theorem mr_Ak {kc : Int} {C C' R R' : pj_G} (h : mr_A kc C R) {W W' : pj_KT} (i : pj_Inv C') (k : pj_kpt W C C') (w : mr_FW W = true) (c0 : pj_fi C' 21 0 = pj_fi C 21 0) (c5 : pj_fi C' 21 5 = pj_fi C 21 5) (i' : pj_Inv R') (k' : pj_kpt W' R R') (w' : mr_RW2 W' = true) : mr_A kc C' R' := by
  obtain ⟨iC, iR, hC, hV, hL, hH, hk⟩ := h
  unfold mr_FW at w
  rw [Bool.and_eq_true, Bool.and_eq_true] at w
  have w9 := w'
  unfold mr_RW2 at w9
  rw [Bool.and_eq_true] at w9
  refine ⟨i, i', mr_Ce hC (by rw [c0]) (by rw [c5]) (k'.1 (171, 5) (mr_nF w9.1 _ rfl)) (k'.1 (171, 6) (mr_nF w9.1 _ rfl)), ?_, mr_Le hL (by rw [c0]) (k.2.2 31 (mr_nA w.2 _ rfl)) (k'.2.2 177 (mr_nA w9.2 _ rfl)), mr_He hH (by rw [c5]) (k.2.2 32 (mr_nA w.2 _ rfl)) (k'.2.2 178 (mr_nA w9.2 _ rfl)), by rw [k'.1 (171, 4) (mr_nF w9.1 _ rfl)]; exact hk⟩
  have hV1 := mr_VC hV k w.1.1 w.1.2
  have f : ∀ m, pj_mF [(171, 3), (171, 4), (171, 5), (171, 6)] 171 m = true → pj_fi R' 171 m = pj_fi R 171 m := fun m hm => k'.1 (171, m) (mr_nF w9.1 (171, m) hm)
  have g : ∀ a, pj_mN [173, 174, 175, 176, 177, 178] a = true → ∀ j, pj_ai R' a j = pj_ai R a j := fun a ha => k'.2.2 a (mr_nA w9.2 a ha)
  rcases hV1 with v | v
  · exact .inl (mr_Vk v rfl rfl rfl rfl (fun _ => rfl) (fun _ => rfl) (fun _ => rfl) (fun _ => rfl) (f 3 rfl) (f 4 rfl) (g 173 rfl) (g 174 rfl) (g 175 rfl) (g 176 rfl))
  · exact .inr (mr_Vk v rfl rfl rfl rfl (fun _ => rfl) (fun _ => rfl) (fun _ => rfl) (fun _ => rfl) (f 3 rfl) (f 4 rfl) (g 173 rfl) (g 174 rfl) (g 175 rfl) (g 176 rfl))
theorem mr_tow {B kc : Int} {C R : pj_G} (h : mr_A kc C R) (hRI : pj_RI R) (hU15 : (pj_fi R 171 30).toInt ≤ 15) (hS : mr_S B kc C R) (hU : mr_U B kc C R) (hQ : mr_Q C R) (b c : Int32) : (F_128nx C b c).1 = (F_226x R b c).1 ∧ mr_S B kc (F_128nx C b c).2 (F_226x R b c).2 ∧ mr_U B kc (F_128nx C b c).2 (F_226x R b c).2 := by
  have iC := h.1
  have iR := h.2.1
  obtain ⟨n, hn, eN, hS1, hU1, rf, ra⟩ := mr_noted iC iR hU15 hS hU
  have i0 : pj_Inv (pj_wv R 171 0 (.int (Int32.ofInt 0))) := pj_Inv_wi iR (ci := 12) rfl (fun q hq => by cases hq)
  obtain ⟨i1, k1, -⟩ := fr_33nx C iC
  obtain ⟨i2, k2⟩ := fr_215x (pj_wv R 171 0 (.int (Int32.ofInt 0))) i0 (by rw [pj_fi_wv_ne _ _ _ _ _ _ (by decide)]; exact hU15)
  have c0 : pj_fi (F_33nx C) 21 0 = pj_fi C 21 0 := k1.1 (21, 0) (by decide)
  have c5 : pj_fi (F_33nx C) 21 5 = pj_fi C 21 5 := k1.1 (21, 5) (by decide)
  have k2' : pj_kpt ([(171, 0)], [171, 186], [186]) R (F_215x (pj_wv R 171 0 (.int (Int32.ofInt 0)))) := pj_kpt_t (pj_kpt_v (pj_kpt_r _ _) rfl) (pj_kpt_s k2 rfl)
  have hA := mr_Ak h i1 k1 rfl c0 c5 i2 k2' rfl
  have hQ1 : mr_Q (F_33nx C) (F_215x (pj_wv R 171 0 (.int (Int32.ofInt 0)))) := mr_Qk hQ (k1.1 (27, 1) (by decide)) (k1.2.1.2 (27, 0) (by decide)) (k1.2.2 28 (by decide)) (k1.2.2 29 (by decide)) (rf 26 (by decide)) (fun j => ra 182 j (by decide))
  have hR1 : pj_RI (F_215x (pj_wv R 171 0 (.int (Int32.ofInt 0)))) := pj_RI_k hRI k2' rfl
  obtain ⟨ey, hS2⟩ := mr_start hA hR1 hS1 hQ1 b c
  obtain ⟨i3, k3, -⟩ := fr_102x (F_33nx C) i1 b c
  obtain ⟨i4, k4, -⟩ := fr_221x (F_215x (pj_wv R 171 0 (.int (Int32.ofInt 0)))) i2 b c hR1
  have hU2 := mr_Upk hU1 (mr_cUk k3 rfl) (mr_rUk k4 rfl)
  have u15 : (pj_fi (F_221x (F_215x (pj_wv R 171 0 (.int (Int32.ofInt 0)))) b c).2 171 30).toInt ≤ 15 := by
    have e : pj_fi (F_221x (F_215x (pj_wv R 171 0 (.int (Int32.ofInt 0)))) b c).2 171 30 = pj_fi (F_215x (pj_wv R 171 0 (.int (Int32.ofInt 0)))) 171 30 := k4.1 (171, 30) (by decide)
    rw [e, rf 30 (by decide)]
    exact hU15
  rw [F_128nx_e, F_226x_e]
  simp only [pj_nm_x, pj_bd_x]
  rw [F_217x_e]
  simp only [pj_bd_x]
  rw [← ey]
  by_cases q : 0 ≤ (F_102x (F_33nx C) b c).1.toInt
  · rw [pj_b0_ltF q, pj_cF, pj_b0_geT q, pj_cT]
    obtain ⟨h1, h2⟩ := mr_held i3 i4 u15 hS2 hU2 (F_102x (F_33nx C) b c).1
    dsimp only
    exact ⟨(mr_216 i4 u15 _).1.symm, h1, h2⟩
  · rw [pj_b0_ltT (show (F_102x (F_33nx C) b c).1.toInt < 0 by omega), pj_cT, pj_b0_geF (show (F_102x (F_33nx C) b c).1.toInt < 0 by omega), pj_cF, mr_34f]
    exact ⟨rfl, hS2, hU2.1⟩
/-- a loan, on both sides -/
theorem mr_loan {B kc : Int} {C R : pj_G} (h : mr_A kc C R) (hB : B ≤ 2000000) (hS : mr_S B kc C R) (b hr : Int32) : (F_103x C b hr).1 = (F_222x R b hr).1 ∧ mr_S B kc (F_103x C b hr).2 (F_222x R b hr).2 ∧ (((pj_fi (F_222x R b hr).2 171 32).toInt = 0 ∧ (F_103x C b hr).1.toInt < -1) ∨ ((pj_fi (F_222x R b hr).2 171 32).toInt = 1 ∧ -1 ≤ (F_103x C b hr).1.toInt)) := by
  have k0 : (Int32.ofInt 0).toInt = 0 := by decide
  have k1 : (Int32.ofInt 1).toInt = 1 := by decide
  have km : (Int32.ofInt (-1)).toInt = -1 := by decide
  have k2 : ((Int8.ofInt (-2)).toInt32).toInt = -2 := by decide
  have k3 : ((Int8.ofInt (-3)).toInt32).toInt = -3 := by decide
  have kL : (Int32.ofInt 999999).toInt = 999999 := by decide
  have lL : (Int64.ofInt 999999).toInt = 999999 := by decide
  have b30 : (((Int8.ofInt 30).toInt32)).toInt.toNat = 30 := by decide
  obtain ⟨⟨nb0, nb6⟩, ⟨np0, np6⟩, kc0, kc10⟩ := mr_nb h
  obtain ⟨iC, iR, hcn, hV, hL, hH, hk⟩ := h
  have i1 : pj_Inv (pj_wv R 171 32 (.int (Int32.ofInt 0))) := pj_Inv_wi iR (ci := 12) rfl (fun q hq => by cases hq; exact ⟨by show (0 : Int) ≤ _; omega, by show _ ≤ (1 : Int); omega⟩)
  obtain ⟨p1, p2⟩ := mr_95 (C := C) b
  obtain ⟨q1, q2⟩ := mr_178 i1 b
  have e5 : pj_fi (pj_wv R 171 32 (.int (Int32.ofInt 0))) 171 5 = pj_fi R 171 5 := pj_fi_wv_ne _ _ _ _ _ _ (by decide)
  rw [e5] at q1 q2
  have f32 : ∀ (X : pj_G) (j : Nat) (x : Int32), pj_fi (pj_wa X 179 j x) 171 32 = pj_fi X 171 32 := fun X j x => pj_fi_wa _ _ _ _ _ _
  have g32 : (pj_fi (pj_wv R 171 32 (.int (Int32.ofInt 0))) 171 32).toInt = 0 := by rw [pj_fi_wi iR.1 (a := 171) (ci := 12) (k := 32) rfl, k0]
  have m32 : (pj_fi (pj_wv (pj_wv R 171 32 (.int (Int32.ofInt 0))) 171 32 (.int (Int32.ofInt 1))) 171 32).toInt = 1 := by rw [pj_fi_wi i1.1 (a := 171) (ci := 12) (k := 32) rfl, k1]
  have hSr : ∀ R' : pj_G, (∀ j, pj_ai R' 179 j = pj_ai R 179 j) → mr_S B kc C R' := fun R' hr' => mr_Sf hS iC rfl rfl rfl (fun _ _ _ _ => rfl) (fun j _ => hr' j)
  have now1 : pj_fi C 21 7 = pj_ai R 179 30 := hS.2.2.1
  obtain ⟨⟨n0, nB⟩, o2, -⟩ := hS.2.2.2
  have hc5 := hcn.1
  rw [F_103x_e, F_222x_e]
  simp only [pj_nm_x]
  by_cases hb : 0 ≤ b.toInt ∧ b.toInt < (pj_fi C 21 0).toInt
  · have t1 := p1 hb
    have t2 := q1 (by omega)
    rw [pj_b0_neT (show ¬ (F_95x C b).toInt = 0 by omega), pj_cT, pj_b0_neT (show ¬ (F_178x (pj_wv R 171 32 (.int (Int32.ofInt 0))) b).toInt = 0 by omega), pj_cT]
    obtain ⟨n, hn⟩ : ∃ n : Nat, b.toInt = (n : Int) := ⟨b.toInt.toNat, by omega⟩
    have nn : b.toInt.toNat = n := by omega
    obtain ⟨x0, x1, x2, x3⟩ := mr_ix hn (by omega)
    have e25 : pj_ai C 25 n = pj_ai R 179 (4 * n + 2) := (hS.1 n (by omega)).2.2.1.trans (by rw [Nat.zero_add])
    have o25 := (o2 n (by omega)).1
    rw [Nat.zero_add] at o25
    have i2 : pj_Inv (pj_wv (pj_wv R 171 32 (.int (Int32.ofInt 0))) 171 32 (.int (Int32.ofInt 1))) := pj_Inv_wi i1 (ci := 12) rfl (fun q hq => by cases hq; exact ⟨by show (0 : Int) ≤ _; omega, by show _ ≤ (1 : Int); omega⟩)
    have aR : ∀ j, pj_ai (pj_wv (pj_wv R 171 32 (.int (Int32.ofInt 0))) 171 32 (.int (Int32.ofInt 1))) 179 j = pj_ai R 179 j := fun j => (pj_ai_wv _ _ _ _ _ _).trans (pj_ai_wv _ _ _ _ _ _)
    have done : -1 ≤ hr.toInt → (pj_ai C 25 n) = (pj_ai (pj_wv (pj_wv R 171 32 (.int (Int32.ofInt 0))) 171 32 (.int (Int32.ofInt 1))) 179 (4 * n + 2)) ∧ mr_S B kc (pj_wa C 25 n hr) (pj_wa (pj_wv (pj_wv R 171 32 (.int (Int32.ofInt 0))) 171 32 (.int (Int32.ofInt 1))) 179 (4 * n + 2) hr) ∧ (((pj_fi (pj_wa (pj_wv (pj_wv R 171 32 (.int (Int32.ofInt 0))) 171 32 (.int (Int32.ofInt 1))) 179 (4 * n + 2) hr) 171 32).toInt = 0 ∧ (pj_ai C 25 n).toInt < -1) ∨ ((pj_fi (pj_wa (pj_wv (pj_wv R 171 32 (.int (Int32.ofInt 0))) 171 32 (.int (Int32.ofInt 1))) 179 (4 * n + 2) hr) 171 32).toInt = 1 ∧ -1 ≤ (pj_ai C 25 n).toInt)) := by
      intro hh
      refine ⟨by rw [aR]; exact e25, ?_, .inr ⟨by rw [f32]; exact m32, by rw [e25]; exact o25⟩⟩
      have h9 := hSr _ aR
      unfold mr_S at h9 ⊢
      rw [pj_fi_wa, pj_fi_wa]
      exact mr_S25 iC.1 i2.1 nb6 np6 h9 n (by omega) hr hh
    by_cases z : hr.toInt = -1
    · have ez := pj_b_eqT (x := hr) (y := Int32.ofInt (-1)) (by omega)
      rw [ez, pj_cT, pj_cT, nn, x2]
      exact done (by omega)
    · have ez := pj_b_eqF (x := hr) (y := Int32.ofInt (-1)) (by omega)
      rw [ez, pj_cF, pj_cF, b30]
      have a30 : pj_ai (pj_wv R 171 32 (.int (Int32.ofInt 0))) 179 30 = pj_ai R 179 30 := pj_ai_wv _ _ _ _ _ _
      rw [a30, now1]
      have nB' : (pj_ai R 179 30).toInt ≤ B := nB
      have n0' : 0 ≤ (pj_ai R 179 30).toInt := n0
      have s1 : (pj_ai R 179 30 + Int32.ofInt 1).toInt = (pj_ai R 179 30).toInt + 1 := by rw [pj_addI (by omega) (by omega), k1]
      have lh : (hr.toInt64).toInt = hr.toInt := Int32.toInt_toInt64 _
      have ln : ((pj_ai R 179 30 + Int32.ofInt 1).toInt64).toInt = (pj_ai R 179 30).toInt + 1 := (Int32.toInt_toInt64 _).trans s1
      obtain ⟨w1, w2⟩ := mr_171 (pj_wv R 171 32 (.int (Int32.ofInt 0))) hr.toInt64 (pj_ai R 179 30 + Int32.ofInt 1).toInt64 (Int64.ofInt 999999)
      by_cases g1 : hr.toInt ≤ (pj_ai R 179 30).toInt
      · rw [pj_b_leT g1, pj_cT, pj_b0_neF (w2 (by omega)), pj_cF]
        exact ⟨rfl, hSr _ (fun j => pj_ai_wv _ _ _ _ _ _), .inl ⟨g32, by show ((Int8.ofInt (-2)).toInt32).toInt < -1; omega⟩⟩
      · by_cases g2 : hr.toInt ≤ 999999
        · rw [pj_b_leF (show (pj_ai R 179 30).toInt < hr.toInt by omega), pj_cF, pj_b_leT (show hr.toInt ≤ (Int32.ofInt 999999).toInt by omega), pj_cT, pj_b0_neT (by rw [w1 (by omega)]; decide), pj_cT, nn, x2]
          exact done (by omega)
        · rw [pj_b_leF (show (pj_ai R 179 30).toInt < hr.toInt by omega), pj_cF, pj_b_leF (show (Int32.ofInt 999999).toInt < hr.toInt by omega), pj_cF, pj_b0_neF (w2 (by omega)), pj_cF]
          exact ⟨rfl, hSr _ (fun j => pj_ai_wv _ _ _ _ _ _), .inl ⟨g32, by show ((Int8.ofInt (-2)).toInt32).toInt < -1; omega⟩⟩
  · rw [pj_b0_neF (p2 hb), pj_cF, pj_b0_neF (q2 (by omega)), pj_cF]
    exact ⟨rfl, hSr _ (fun j => pj_ai_wv _ _ _ _ _ _), .inl ⟨g32, by show ((Int8.ofInt (-3)).toInt32).toInt < -1; omega⟩⟩
theorem mr_lend {B kc : Int} {C R : pj_G} (h : mr_A kc C R) (hB : B ≤ 2000000) (hU15 : (pj_fi R 171 30).toInt ≤ 15) (hS : mr_S B kc C R) (hU : mr_U B kc C R) (b hr : Int32) : (F_129nx C b hr).1 = (F_227x R b hr).1 ∧ mr_S B kc (F_129nx C b hr).2 (F_227x R b hr).2 ∧ mr_U B kc (F_129nx C b hr).2 (F_227x R b hr).2 := by
  have km : (Int32.ofInt (-1)).toInt = -1 := by decide
  have iC := h.1
  have iR := h.2.1
  obtain ⟨n, hn, eN, hS1, hU1, rf, ra⟩ := mr_noted iC iR hU15 hS hU
  have i0 : pj_Inv (pj_wv R 171 0 (.int (Int32.ofInt 0))) := pj_Inv_wi iR (ci := 12) rfl (fun q hq => by cases hq)
  obtain ⟨i1, k1, -⟩ := fr_33nx C iC
  obtain ⟨i2, k2⟩ := fr_215x (pj_wv R 171 0 (.int (Int32.ofInt 0))) i0 (by rw [pj_fi_wv_ne _ _ _ _ _ _ (by decide)]; exact hU15)
  have c0 : pj_fi (F_33nx C) 21 0 = pj_fi C 21 0 := k1.1 (21, 0) (by decide)
  have c5 : pj_fi (F_33nx C) 21 5 = pj_fi C 21 5 := k1.1 (21, 5) (by decide)
  have k2' : pj_kpt ([(171, 0)], [171, 186], [186]) R (F_215x (pj_wv R 171 0 (.int (Int32.ofInt 0)))) := pj_kpt_t (pj_kpt_v (pj_kpt_r _ _) rfl) (pj_kpt_s k2 rfl)
  have hA := mr_Ak h i1 k1 rfl c0 c5 i2 k2' rfl
  obtain ⟨ey, hS2, hd⟩ := mr_loan hA hB hS1 b hr
  obtain ⟨i3, k3⟩ := fr_103x (F_33nx C) i1 b hr
  obtain ⟨i4, k4⟩ := fr_222x (F_215x (pj_wv R 171 0 (.int (Int32.ofInt 0)))) i2 b hr
  have hU2 := mr_Upk hU1 (mr_cUk k3 rfl) (mr_rUk k4 rfl)
  have u15 : (pj_fi (F_222x (F_215x (pj_wv R 171 0 (.int (Int32.ofInt 0)))) b hr).2 171 30).toInt ≤ 15 := by
    have e : pj_fi (F_222x (F_215x (pj_wv R 171 0 (.int (Int32.ofInt 0)))) b hr).2 171 30 = pj_fi (F_215x (pj_wv R 171 0 (.int (Int32.ofInt 0)))) 171 30 := k4.1 (171, 30) (by decide)
    rw [e, rf 30 (by decide)]
    exact hU15
  rw [F_129nx_e, F_227x_e]
  simp only [pj_nm_x, pj_bd_x]
  rw [← ey]
  rcases hd with ⟨d1, d2⟩ | ⟨d1, d2⟩
  · rw [pj_b_ltT (show (F_103x (F_33nx C) b hr).1.toInt < (Int32.ofInt (-1)).toInt by omega), pj_cT, pj_b0_eqT d1, pj_cT, mr_34f]
    exact ⟨rfl, hS2, hU2.1⟩
  · rw [pj_b_ltF (show (Int32.ofInt (-1)).toInt ≤ (F_103x (F_33nx C) b hr).1.toInt by omega), pj_cF, pj_b0_eqF (show ¬ (pj_fi (F_222x (F_215x (pj_wv R 171 0 (.int (Int32.ofInt 0)))) b hr).2 171 32).toInt = 0 by omega), pj_cF]
    obtain ⟨h1, h2⟩ := mr_held i3 i4 u15 hS2 hU2 (F_103x (F_33nx C) b hr).1
    dsimp only
    exact ⟨(mr_216 i4 u15 _).1.symm, h1, h2⟩
