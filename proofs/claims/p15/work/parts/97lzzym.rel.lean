/-! THE WHOLE STATE, from call to call -/
def mr_E (n : Int) (C R : pj_G) : Prop := mr_S (400 * n) (pj_fi R 171 4).toInt C R ∧ mr_U (400 * n) (pj_fi R 171 4).toInt C R ∧ mr_KS (400 * n) (pj_fi R 171 4).toInt C R ∧ pr_Q C R
theorem mr_KSB {B B' kc : Int} {C R : pj_G} (h : mr_KS B kc C R) (hB : B ≤ B') : mr_KS B' kc C R := fun i hi h1 h2 h3 => mr_rowB (h i hi h1 h2 h3) hB
theorem mr_En {n : Int} {C R : pj_G} (h : mr_E n C R) : mr_E (n + 5) C R := ⟨mr_rowB h.1 (by omega), mr_UB h.2.1 (by omega), mr_KSB h.2.2.1 (by omega), h.2.2.2⟩
theorem mr_KSg {B kc : Int} {C C' R R' : pj_G} (h : mr_KS B kc C R) (iC : pj_Inv C) (c0 : pj_fi C' 21 0 = pj_fi C 21 0) (c5 : pj_fi C' 21 5 = pj_fi C 21 5) (c56 : ∀ i, pj_ai C' 56 i = pj_ai C 56 i) (cf : ∀ i : Nat, i < 3 → ∀ k, pj_fi C' (153 + 6 * i) k = pj_fi C (153 + 6 * i) k) (ca : ∀ i : Nat, i < 3 → ∀ x, x ≤ 5 → ∀ j, pj_ai C' (153 + 6 * i + x) j = pj_ai C (153 + 6 * i + x) j) (ra : ∀ j, pj_ai R' 202 j = pj_ai R 202 j) : mr_KS B kc C' R' := by
  have r0 : (0 : Int) ≤ (pj_fi C 21 0).toInt ∧ (pj_fi C 21 0).toInt ≤ 6 := iC.2.1 21 0 (0, 6) rfl
  have r5 : (0 : Int) ≤ (pj_fi C 21 5).toInt ∧ (pj_fi C 21 5).toInt ≤ 6 := iC.2.1 21 5 (0, 6) rfl
  intro i hi h1 h2 h3
  rw [c56] at h1
  rw [cf i hi, c0] at h2
  rw [cf i hi, c5] at h3
  rw [c0, c5]
  exact mr_rowR r0.2 r5.2 (mr_rowk (h i hi h1 h2 h3) (ca i hi 1 (by decide)) (ca i hi 2 (by decide)) (ca i hi 3 (by decide)) (ca i hi 4 (by decide)) (ca i hi 5 (by decide)) (cf i hi 7)) (fun k _ => ra _)
/-- what the class leaves as it is -/
def mr_EW (W : pj_KT) : Bool := W.1.all (fun q => !(Nat.beq q.1 21 || (Nat.beq q.1 27 || (Nat.beq q.1 53 || (Nat.ble 57 q.1 && Nat.ble q.1 170))))) && W.2.2.all (fun a => !((Nat.ble 22 a && Nat.ble a 29) || (Nat.ble 56 a && Nat.ble a 170)))
theorem mr_EWf {W : pj_KT} (w : mr_EW W = true) : (∀ a m, (a = 21 ∨ a = 27 ∨ a = 53 ∨ (57 ≤ a ∧ a ≤ 170)) → (a, m) ∉ W.1) ∧ ∀ a, (22 ≤ a ∧ a ≤ 29) ∨ (56 ≤ a ∧ a ≤ 170) → a ∉ W.2.2 := by
  unfold mr_EW at w
  rw [Bool.and_eq_true] at w
  refine ⟨fun a m ha hm => ?_, fun a ha hm => ?_⟩
  · have z := List.all_eq_true.mp w.1 (a, m) hm
    dsimp only at z
    rw [Bool.not_eq_true', Bool.or_eq_false_iff, Bool.or_eq_false_iff, Bool.or_eq_false_iff, Bool.and_eq_false_iff] at z
    obtain ⟨z1, z2, z3, z4⟩ := z
    rcases ha with e | e | e | ⟨e, e'⟩
    · rw [e] at z1
      cases z1
    · rw [e] at z2
      cases z2
    · rw [e] at z3
      cases z3
    · rcases z4 with z4 | z4
      · exact absurd (Nat.ble_eq_true_of_le e) (by rw [z4]; exact Bool.false_ne_true)
      · exact absurd (Nat.ble_eq_true_of_le e') (by rw [z4]; exact Bool.false_ne_true)
  · have z := List.all_eq_true.mp w.2 a hm
    rw [Bool.not_eq_true', Bool.or_eq_false_iff, Bool.and_eq_false_iff, Bool.and_eq_false_iff] at z
    obtain ⟨z1, z2⟩ := z
    rcases ha with ⟨e, e'⟩ | ⟨e, e'⟩
    · rcases z1 with z | z
      · exact absurd (Nat.ble_eq_true_of_le e) (by rw [z]; exact Bool.false_ne_true)
      · exact absurd (Nat.ble_eq_true_of_le e') (by rw [z]; exact Bool.false_ne_true)
    · rcases z2 with z | z
      · exact absurd (Nat.ble_eq_true_of_le e) (by rw [z]; exact Bool.false_ne_true)
      · exact absurd (Nat.ble_eq_true_of_le e') (by rw [z]; exact Bool.false_ne_true)
theorem mr_Qc {C C' R : pj_G} (h : pr_Q C R) (v : ∀ m, pj_fv C' 27 m = pj_fv C 27 m) (a : ∀ j, pj_ai C' 28 j = pj_ai C 28 j) (b : ∀ j, pj_ai C' 29 j = pj_ai C 29 j) {R' : pj_G} (r : pj_fi R' 171 26 = pj_fi R 171 26) (d : ∀ j, pj_ai R' 182 j = pj_ai R 182 j) : pr_Q C' R' := by
  have f : ∀ m, pj_fi C' 27 m = pj_fi C 27 m := fun m => by
    unfold pj_fi
    rw [v]
  have g : ∀ m t, pj_rb C' 27 m t = pj_rb C 27 m t := fun m t => by
    unfold pj_rb
    rw [v]
  exact ⟨mr_Qk h.1 (f 1) (v 0) a b r d, by rw [g, g]; exact h.2⟩
theorem mr_EC {n : Int} {W : pj_KT} {C C' R : pj_G} (h : mr_E n C R) (iC : pj_Inv C) (k : pj_kpt W C C') (w : mr_EW W = true) : mr_E n C' R := by
  obtain ⟨f, a⟩ := mr_EWf w
  obtain ⟨h1, h2, h3, h4⟩ := h
  have f21 : ∀ m, pj_fi C' 21 m = pj_fi C 21 m := fun m => k.1 (21, m) (f 21 m (.inl rfl))
  refine ⟨mr_Sf h1 iC (f21 0) (f21 5) (f21 7) (fun x j hx hy => k.2.2 x (a x (.inl ⟨hx, by omega⟩)) j) (fun _ _ => rfl), mr_Uk h2 ⟨by rw [k.1 (53, 1) (f 53 1 (by omega))], by rw [k.1 (53, 2) (f 53 2 (by omega))], by rw [f21], by rw [f21], fun i hi => ⟨k.1 (57 + 6 * i, 7) (f _ 7 (by omega)), fun x h1 h5 j => k.2.2 (57 + 6 * i + x) (a _ (by omega)) j⟩⟩ ⟨rfl, fun _ => rfl⟩, mr_KSg h3 iC (f21 0) (f21 5) (k.2.2 56 (a 56 (by omega))) (fun i hi m => k.1 (153 + 6 * i, m) (f _ m (by omega))) (fun i hi x hx j => ?_) (fun _ => rfl), mr_Qc h4 (fun m => k.2.1.2 (27, m) (f 27 m (by omega))) (k.2.2 28 (a 28 (by omega))) (k.2.2 29 (a 29 (by omega))) rfl (fun _ => rfl)⟩
  exact k.2.2 (153 + 6 * i + x) (a _ (by omega)) j
def mr_ERW (W : pj_KT) : Bool := W.1.all (fun q => !(pj_mF [(171, 4), (171, 26), (171, 30)] q.1 q.2)) && W.2.2.all (fun a => !(pj_mN [179, 182, 186, 202] a))
theorem mr_ER {n : Int} {W : pj_KT} {C R R' : pj_G} (h : mr_E n C R) (iC : pj_Inv C) (k : pj_kpt W R R') (w : mr_ERW W = true) : mr_E n C R' := by
  unfold mr_ERW at w
  rw [Bool.and_eq_true] at w
  obtain ⟨h1, h2, h3, h4⟩ := h
  have e4 : pj_fi R' 171 4 = pj_fi R 171 4 := k.1 (171, 4) (mr_nF w.1 _ rfl)
  unfold mr_E
  rw [e4]
  exact ⟨mr_Sf h1 iC rfl rfl rfl (fun _ _ _ _ => rfl) (fun j _ => k.2.2 179 (mr_nA w.2 _ rfl) j), mr_Uk h2 ⟨rfl, rfl, rfl, rfl, fun _ _ => ⟨rfl, fun _ _ _ _ => rfl⟩⟩ ⟨by rw [k.1 (171, 30) (mr_nF w.1 _ rfl)], k.2.2 186 (mr_nA w.2 _ rfl)⟩, mr_KSg h3 iC rfl rfl (fun _ => rfl) (fun _ _ _ => rfl) (fun _ _ _ _ _ => rfl) (k.2.2 202 (mr_nA w.2 _ rfl)), mr_Qc h4 (fun _ => rfl) (fun _ => rfl) (fun _ => rfl) (k.1 (171, 26) (mr_nF w.1 _ rfl)) (k.2.2 182 (mr_nA w.2 _ rfl))⟩
theorem mr_EG {n : Int} {C R R' : pj_G} (h : mr_E n C R) (iC : pj_Inv C) (k : ∀ b, 171 ≤ b → b < 203 → pj_get R' b = pj_get R b) : mr_E n C R' := by
  obtain ⟨h1, h2, h3, h4⟩ := h
  have e : ∀ m, pj_fi R' 171 m = pj_fi R 171 m := fun m => mr_gi (k 171 (by decide) (by decide))
  have a : ∀ b, 171 ≤ b → b < 203 → ∀ j, pj_ai R' b j = pj_ai R b j := fun b x y j => mr_ga (k b x y)
  unfold mr_E
  rw [e]
  exact ⟨mr_Sf h1 iC rfl rfl rfl (fun _ _ _ _ => rfl) (fun j _ => a 179 (by decide) (by decide) j), mr_Uk h2 ⟨rfl, rfl, rfl, rfl, fun _ _ => ⟨rfl, fun _ _ _ _ => rfl⟩⟩ ⟨by rw [e], a 186 (by decide) (by decide)⟩, mr_KSg h3 iC rfl rfl (fun _ => rfl) (fun _ _ _ => rfl) (fun _ _ _ _ _ => rfl) (a 202 (by decide) (by decide)), mr_Qc h4 (fun _ => rfl) (fun _ => rfl) (fun _ => rfl) (e 26) (a 182 (by decide) (by decide))⟩
/-- a deed: what can be undone and the state are new; the rest is as it was -/
def mr_DW (W : pj_KT) : Bool := W.1.all (fun q => !(Nat.beq q.1 27 || ((Nat.ble 153 q.1 && Nat.ble q.1 170) || pj_mF [(21, 0), (21, 5)] q.1 q.2))) && W.2.2.all (fun a => !((Nat.ble 28 a && Nat.ble a 29) || (Nat.beq a 56 || (Nat.ble 153 a && Nat.ble a 170))))
theorem mr_DWf {W : pj_KT} (w : mr_DW W = true) : (∀ a m, (a = 27 ∨ (153 ≤ a ∧ a ≤ 170) ∨ (a = 21 ∧ (m = 0 ∨ m = 5))) → (a, m) ∉ W.1) ∧ ∀ a, (28 ≤ a ∧ a ≤ 29) ∨ a = 56 ∨ (153 ≤ a ∧ a ≤ 170) → a ∉ W.2.2 := by
  unfold mr_DW at w
  rw [Bool.and_eq_true] at w
  refine ⟨fun a m ha hm => ?_, fun a ha hm => ?_⟩
  · have z := List.all_eq_true.mp w.1 (a, m) hm
    dsimp only at z
    rw [Bool.not_eq_true', Bool.or_eq_false_iff, Bool.or_eq_false_iff, Bool.and_eq_false_iff] at z
    obtain ⟨z1, z2, z3⟩ := z
    rcases ha with e | ⟨e, e'⟩ | ⟨e, e'⟩
    · rw [e] at z1
      cases z1
    · rcases z2 with z | z
      · exact absurd (Nat.ble_eq_true_of_le e) (by rw [z]; exact Bool.false_ne_true)
      · exact absurd (Nat.ble_eq_true_of_le e') (by rw [z]; exact Bool.false_ne_true)
    · subst e
      rcases e' with e' | e' <;> subst e' <;> cases z3
  · have z := List.all_eq_true.mp w.2 a hm
    rw [Bool.not_eq_true', Bool.or_eq_false_iff, Bool.or_eq_false_iff, Bool.and_eq_false_iff, Bool.and_eq_false_iff] at z
    obtain ⟨z1, z2, z3⟩ := z
    rcases ha with ⟨e, e'⟩ | e | ⟨e, e'⟩
    · rcases z1 with z | z
      · exact absurd (Nat.ble_eq_true_of_le e) (by rw [z]; exact Bool.false_ne_true)
      · exact absurd (Nat.ble_eq_true_of_le e') (by rw [z]; exact Bool.false_ne_true)
    · subst e
      cases z2
    · rcases z3 with z | z
      · exact absurd (Nat.ble_eq_true_of_le e) (by rw [z]; exact Bool.false_ne_true)
      · exact absurd (Nat.ble_eq_true_of_le e') (by rw [z]; exact Bool.false_ne_true)
def mr_DR (W : pj_KT) : Bool := W.1.all (fun q => !(pj_mF [(171, 4), (171, 26)] q.1 q.2)) && W.2.2.all (fun a => !(pj_mN [182, 202] a))
theorem mr_eD {n B : Int} {C R C' R' : pj_G} {W W' : pj_KT} (h : mr_E n C R) (iC : pj_Inv C) (k : pj_kpt W C C') (k' : pj_kpt W' R R') (w : mr_DW W = true) (w' : mr_DR W' = true) (hS : mr_S B (pj_fi R 171 4).toInt C' R') (hU : mr_U B (pj_fi R 171 4).toInt C' R') (hB : B ≤ 400 * (n + 5)) : mr_E (n + 5) C' R' := by
  unfold mr_DR at w'
  rw [Bool.and_eq_true] at w'
  obtain ⟨f, a⟩ := mr_DWf w
  obtain ⟨h1, h2, h3, h4⟩ := h
  have e4 : pj_fi R' 171 4 = pj_fi R 171 4 := k'.1 (171, 4) (mr_nF w'.1 _ rfl)
  unfold mr_E
  rw [e4]
  refine ⟨mr_rowB hS hB, mr_UB hU hB, mr_KSB (mr_KSg h3 iC (k.1 (21, 0) (f 21 0 (by omega))) (k.1 (21, 5) (f 21 5 (by omega))) (k.2.2 56 (a 56 (by omega))) (fun i hi m => k.1 (153 + 6 * i, m) (f _ m (by omega))) (fun i hi x hx j => ?_) (k'.2.2 202 (mr_nA w'.2 _ rfl))) (by omega), mr_Qc h4 (fun m => k.2.1.2 (27, m) (f 27 m (by omega))) (k.2.2 28 (a 28 (by omega))) (k.2.2 29 (a 29 (by omega))) (k'.1 (171, 26) (mr_nF w'.1 _ rfl)) (k'.2.2 182 (mr_nA w'.2 _ rfl))⟩
  exact k.2.2 (153 + 6 * i + x) (a _ (by omega)) j
/-- an undoing: counts are as they were, though written -/
def mr_DU (W : pj_KT) : Bool := W.1.all (fun q => !(Nat.beq q.1 27 || (Nat.ble 153 q.1 && Nat.ble q.1 170))) && W.2.2.all (fun a => !((Nat.ble 28 a && Nat.ble a 29) || (Nat.beq a 56 || (Nat.ble 153 a && Nat.ble a 170))))
theorem mr_DUf {W : pj_KT} (w : mr_DU W = true) : (∀ a m, (a = 27 ∨ (153 ≤ a ∧ a ≤ 170)) → (a, m) ∉ W.1) ∧ ∀ a, (28 ≤ a ∧ a ≤ 29) ∨ a = 56 ∨ (153 ≤ a ∧ a ≤ 170) → a ∉ W.2.2 := by
  unfold mr_DU at w
  rw [Bool.and_eq_true] at w
  refine ⟨fun a m ha hm => ?_, fun a ha hm => ?_⟩
  · have z := List.all_eq_true.mp w.1 (a, m) hm
    dsimp only at z
    rw [Bool.not_eq_true', Bool.or_eq_false_iff, Bool.and_eq_false_iff] at z
    obtain ⟨z1, z2⟩ := z
    rcases ha with e | ⟨e, e'⟩
    · rw [e] at z1
      cases z1
    · rcases z2 with z | z
      · exact absurd (Nat.ble_eq_true_of_le e) (by rw [z]; exact Bool.false_ne_true)
      · exact absurd (Nat.ble_eq_true_of_le e') (by rw [z]; exact Bool.false_ne_true)
  · have z := List.all_eq_true.mp w.2 a hm
    rw [Bool.not_eq_true', Bool.or_eq_false_iff, Bool.or_eq_false_iff, Bool.and_eq_false_iff, Bool.and_eq_false_iff] at z
    obtain ⟨z1, z2, z3⟩ := z
    rcases ha with ⟨e, e'⟩ | e | ⟨e, e'⟩
    · rcases z1 with z | z
      · exact absurd (Nat.ble_eq_true_of_le e) (by rw [z]; exact Bool.false_ne_true)
      · exact absurd (Nat.ble_eq_true_of_le e') (by rw [z]; exact Bool.false_ne_true)
    · subst e
      cases z2
    · rcases z3 with z | z
      · exact absurd (Nat.ble_eq_true_of_le e) (by rw [z]; exact Bool.false_ne_true)
      · exact absurd (Nat.ble_eq_true_of_le e') (by rw [z]; exact Bool.false_ne_true)
theorem mr_eU {n B : Int} {C R C' R' : pj_G} {W W' : pj_KT} (h : mr_E n C R) (iC : pj_Inv C) (k : pj_kpt W C C') (k' : pj_kpt W' R R') (w : mr_DU W = true) (w' : mr_DR W' = true) (c0 : pj_fi C' 21 0 = pj_fi C 21 0) (c5 : pj_fi C' 21 5 = pj_fi C 21 5) (hS : mr_S B (pj_fi R 171 4).toInt C' R') (hU : mr_U B (pj_fi R 171 4).toInt C' R') (hB : B ≤ 400 * (n + 5)) : mr_E (n + 5) C' R' := by
  unfold mr_DR at w'
  rw [Bool.and_eq_true] at w'
  obtain ⟨f, a⟩ := mr_DUf w
  obtain ⟨h1, h2, h3, h4⟩ := h
  have e4 : pj_fi R' 171 4 = pj_fi R 171 4 := k'.1 (171, 4) (mr_nF w'.1 _ rfl)
  unfold mr_E
  rw [e4]
  refine ⟨mr_rowB hS hB, mr_UB hU hB, mr_KSB (mr_KSg h3 iC c0 c5 (k.2.2 56 (a 56 (by omega))) (fun i hi m => k.1 (153 + 6 * i, m) (f _ m (by omega))) (fun i hi x hx j => ?_) (k'.2.2 202 (mr_nA w'.2 _ rfl))) (by omega), mr_Qc h4 (fun m => k.2.1.2 (27, m) (f 27 m (by omega))) (k.2.2 28 (a 28 (by omega))) (k.2.2 29 (a 29 (by omega))) (k'.1 (171, 26) (mr_nF w'.1 _ rfl)) (k'.2.2 182 (mr_nA w'.2 _ rfl))⟩
  exact k.2.2 (153 + 6 * i + x) (a _ (by omega)) j
theorem mr_FA {C R : pj_G} (iC : pj_Inv C) (iR : pj_Inv R) (h : mr_F C R) : mr_A (pj_fi R 171 4).toInt C R := ⟨iC, iR, h.1, h.2.2.1, h.2.2.2.1, h.2.2.2.2, rfl⟩
/-- how long a tow takes, or why not -/
theorem mr_takes {B kc : Int} {C R : pj_G} (h : mr_A kc C R) (hRI : pj_RI R) (hS : mr_S B kc C R) (hQ : mr_Q C R) (b c : Int32) : (F_127x C b c).1 = (F_220x R b c).1 := by
  have k0 : (Int32.ofInt 0).toInt = 0 := by decide
  have iC := h.1
  have i0 : pj_Inv (pj_wv R 171 0 (.int (Int32.ofInt 0))) := pj_Inv_wi h.2.1 (ci := 12) rfl (fun q hq => by cases hq)
  have k2 : pj_kpt ([(171, 0)], [171], []) R (pj_wv R 171 0 (.int (Int32.ofInt 0))) := pj_kpt_v (pj_kpt_r _ _) rfl
  have hA := mr_Ak h iC (pj_kpt_r ([], [], []) C) rfl rfl rfl i0 k2 rfl
  have hS0 : mr_S B kc C (pj_wv R 171 0 (.int (Int32.ofInt 0))) := mr_Sf hS iC rfl rfl rfl (fun _ _ _ _ => rfl) (fun j _ => k2.2.2 179 (by decide) j)
  have hQ0 : mr_Q C (pj_wv R 171 0 (.int (Int32.ofInt 0))) := mr_Qk hQ rfl rfl (fun _ => rfl) (fun _ => rfl) (k2.1 (171, 26) (by decide)) (k2.2.2 182 (by decide))
  rw [F_127x_e, F_220x_e]
  simp only [pj_nm_x, pj_bd_x]
  generalize pj_wv R 171 0 (.int (Int32.ofInt 0)) = R0 at *
  rcases mr_why hA hS0 b c with ⟨w, hw, e1, e2⟩ | ⟨e1, e2, hb, hc, -⟩
  · rw [e1, e2, pj_b0_geF hw, pj_cF]
  · rw [e1, e2, pj_b0_geT (show 0 ≤ (Int32.ofInt 0).toInt by omega), pj_cT]
    exact mr_hrs hA hS0 hQ0 b c hb hc
theorem mr_e10 {n : Int} {C R : pj_G} (iC : pj_Inv C) (iR : pj_Inv R) (hF : mr_F C R) (hRI : pj_RI R) (h : mr_E n C R) (b c : Int32) : (F_127x C b c).1 = (F_220x R b c).1 := mr_takes (mr_FA iC iR hF) hRI h.1 h.2.2.2.1 b c
theorem mr_e11 {n : Int} (hn : n ≤ 2560) {C R : pj_G} (iC : pj_Inv C) (iR : pj_Inv R) (hF : mr_F C R) (hRI : pj_RI R) (hU15 : (pj_fi R 171 30).toInt ≤ 15) (h : mr_E n C R) (b c : Int32) : (F_128nx C b c).1 = (F_226x R b c).1 ∧ mr_E (n + 5) (F_128nx C b c).2 (F_226x R b c).2 := by
  obtain ⟨a1, a2, a3⟩ := mr_tow (mr_FA iC iR hF) hRI hU15 h.1 h.2.1 h.2.2.2.1 b c
  obtain ⟨-, k, -⟩ := fr_128nx C iC b c
  obtain ⟨-, k', -⟩ := fr_226x R iR b c hRI hU15
  exact ⟨a1, mr_eD h iC k k' rfl rfl a2 a3 (by omega)⟩
theorem mr_e12 {n : Int} (hn : n ≤ 2560) {C R : pj_G} (iC : pj_Inv C) (iR : pj_Inv R) (hF : mr_F C R) (hRI : pj_RI R) (hU15 : (pj_fi R 171 30).toInt ≤ 15) (h : mr_E n C R) (b c : Int32) : (F_129nx C b c).1 = (F_227x R b c).1 ∧ mr_E (n + 5) (F_129nx C b c).2 (F_227x R b c).2 := by
  obtain ⟨a1, a2, a3⟩ := mr_lend (mr_FA iC iR hF) (by omega) hU15 h.1 h.2.1 b c
  obtain ⟨-, k, -⟩ := fr_129nx C iC b c
  obtain ⟨-, k', -⟩ := fr_227x R iR b c hU15
  exact ⟨a1, mr_eD h iC k k' rfl rfl a2 a3 (by omega)⟩
theorem mr_e13 {n : Int} (hn : n ≤ 2560) {C R : pj_G} (iC : pj_Inv C) (iR : pj_Inv R) (hF : mr_F C R) (hRI : pj_RI R) (hU15 : (pj_fi R 171 30).toInt ≤ 15) (h : mr_E n C R) (b c : Int32) : (F_130nx C b c).1 = (F_228x R b c).1 ∧ mr_E (n + 5) (F_130nx C b c).2 (F_228x R b c).2 := by
  obtain ⟨a1, a2, a3⟩ := mr_cross (mr_FA iC iR hF) hRI hU15 h.1 h.2.1 h.2.2.2.1 b c
  obtain ⟨-, k, -⟩ := fr_130nx C iC b c
  obtain ⟨-, k', -⟩ := fr_228x R iR b c hU15
  exact ⟨a1, mr_eD h iC k k' rfl rfl a2 a3 (by omega)⟩
theorem mr_e14 {n : Int} (hn : n ≤ 2560) {C R : pj_G} (iC : pj_Inv C) (iR : pj_Inv R) (hF : mr_F C R) (hRI : pj_RI R) (hU15 : (pj_fi R 171 30).toInt ≤ 15) (h : mr_E n C R) (b : Int32) : (F_131nx C b).1 = (F_229x R b).1 ∧ mr_E (n + 5) (F_131nx C b).2 (F_229x R b).2 := by
  obtain ⟨a1, a2, a3⟩ := mr_hoursR (mr_FA iC iR hF) (by omega) hU15 h.1 h.2.1 b
  obtain ⟨-, k, -⟩ := fr_131nx C iC b
  obtain ⟨-, k', -⟩ := fr_229x R iR b hU15
  exact ⟨a1, mr_eD h iC k k' rfl rfl a2 a3 (by omega)⟩
theorem mr_e15 {n : Int} (hn : n ≤ 2560) {C R : pj_G} (iC : pj_Inv C) (iR : pj_Inv R) (hT : mr_T C R) (hF : mr_F C R) (hRI : pj_RI R) (hU15 : (pj_fi R 171 30).toInt ≤ 15) (h : mr_E n C R) : (F_132nx C).1 = (F_232tx R).1 ∧ mr_E (n + 5) (F_132nx C).2 (F_232tx R).2 := by
  obtain ⟨a1, a2, a3⟩ := mr_day (mr_FA iC iR hF) hRI (by omega) hU15 hT.1 hT.2 h.1 h.2.1 h.2.2.2.1
  obtain ⟨-, k, -⟩ := fr_132nx C iC
  obtain ⟨-, k', -⟩ := fr_232tx R iR hRI hU15
  exact ⟨a1, mr_eD h iC k k' rfl rfl a2 a3 (by omega)⟩
theorem mr_e16 {n : Int} {C R : pj_G} (iC : pj_Inv C) (iR : pj_Inv R) (hF : mr_F C R) (hU15 : (pj_fi R 171 30).toInt ≤ 15) (h : mr_E n C R) : (F_133nx C).1 = (F_218x R).1 ∧ mr_E (n + 5) (F_133nx C).2 (F_218x R).2 := by
  obtain ⟨a1, a2, a3⟩ := mr_undoR (mr_FA iC iR hF) hF.2.1 hU15 h.1 h.2.1
  obtain ⟨-, k, pc⟩ := fr_133nx C iC
  obtain ⟨-, p0, p5⟩ := pc hF.2.1
  obtain ⟨-, k', -⟩ := fr_218x R iR hU15
  exact ⟨a1, mr_eU h iC k k' rfl rfl (Int32.toInt_inj.mp p0) (Int32.toInt_inj.mp p5) a2 a3 (by omega)⟩
theorem mr_E0 {n : Int} {G : pj_G} (hn : n = 0) (c0 : (pj_fi G 21 0).toInt = 0) (c5 : (pj_fi G 21 5).toInt = 0) (c7 : pj_fi G 21 7 = pj_ai G 179 30) (n0 : (pj_ai G 179 30).toInt = 0) (u : (pj_fi G 53 2).toInt = 0) (u2 : (pj_fi G 171 30).toInt = 0) (k : ∀ i, i < 3 → (pj_ai G 56 i).toInt = 0) (q1 : (pj_fi G 27 1).toInt = 0) (q2 : (pj_fi G 171 26).toInt = 0) (q3 : pj_rb G 27 0 28 = (!pj_rb G 27 2 28)) : mr_E n G G := by
  refine ⟨⟨fun b hb => absurd hb (by omega), fun p hp => absurd hp (by omega), c7, ⟨?_, ?_⟩, fun b hb => absurd hb (by omega), fun b d hb => absurd hb (by omega)⟩, ⟨by omega, fun i k hi => absurd hi (by omega)⟩, fun i hi h1 => absurd (k i hi) h1, .inl ⟨q1, q2⟩, q3⟩
  · show 0 ≤ (pj_ai G 179 30).toInt
    omega
  · show (pj_ai G 179 30).toInt ≤ _
    omega
