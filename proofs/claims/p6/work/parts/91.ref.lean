/-- kept of the reference: what ruled() and route() lean on -/
def pj_rik (K : pj_KT) : Bool := !(pj_mF K.1 171 3 || (pj_mF K.1 171 4 || (pj_mF K.1 171 26 || (pj_mN K.2.2 173 || (pj_mN K.2.2 174 || pj_mN K.2.2 182)))))
theorem pj_mF_n {l : List (Nat × Nat)} {a k : Nat} (h : ¬ pj_mF l a k = true) : (a, k) ∉ l := fun hm => h (List.any_eq_true.mpr ⟨_, hm, by rw [Nat.beq_refl, Nat.beq_refl]; rfl⟩)
theorem pj_mN_n {l : List Nat} {a : Nat} (h : ¬ pj_mN l a = true) : a ∉ l := fun hm => h (List.any_eq_true.mpr ⟨_, hm, Nat.beq_refl _⟩)
/-- a rule's steps never take more than there is -/
def pj_vp (f : Nat → Int32) : Nat → Nat → Nat → Option Nat
  | 0, _, h => some h
  | n + 1, i, h => if (f i).toInt = 3000 then (if 1 ≤ h then pj_vp f n (i + 1) h else none) else if 2000 ≤ (f i).toInt then (if 2 ≤ h then pj_vp f n (i + 1) (h - 1) else none) else pj_vp f n (i + 1) (h + 1)
def pj_RI (G : pj_G) : Prop := (∀ c : Nat, (c : Int) < (pj_fi G 171 4).toInt → (pj_ai G 173 c).toInt < (pj_fi G 171 3).toInt ∧ (pj_ai G 174 c).toInt < (pj_fi G 171 3).toInt) ∧ ∃ r, pj_vp (fun j => pj_ai G 182 j) (pj_fi G 171 26).toInt.toNat 0 0 = some r
theorem pj_RI_e {G0 G : pj_G} (h : pj_RI G0) (e1 : pj_fi G 171 3 = pj_fi G0 171 3) (e2 : pj_fi G 171 4 = pj_fi G0 171 4) (e3 : pj_fi G 171 26 = pj_fi G0 171 26) (a1 : ∀ j, pj_ai G 173 j = pj_ai G0 173 j) (a2 : ∀ j, pj_ai G 174 j = pj_ai G0 174 j) (a3 : ∀ j, pj_ai G 182 j = pj_ai G0 182 j) : pj_RI G := by
  refine ⟨fun c hc => ?_, ?_⟩
  · rw [e1, a1, a2]
    rw [e2] at hc
    exact h.1 c hc
  · rw [e3]
    have e4 : (fun j => pj_ai G 182 j) = (fun j => pj_ai G0 182 j) := funext a3
    rw [e4]
    exact h.2
theorem pj_RI_k {K : pj_KT} {G0 G : pj_G} (h : pj_RI G0) (hK : pj_kpt K G0 G) (hW : pj_rik K = true) : pj_RI G := by
  unfold pj_rik at hW
  simp only [Bool.not_eq_true', Bool.or_eq_false_iff] at hW
  obtain ⟨h1, h2, h3, h4, h5, h6⟩ := hW
  exact pj_RI_e h (hK.1 _ (pj_mF_n (by rw [h1]; decide))) (hK.1 _ (pj_mF_n (by rw [h2]; decide))) (hK.1 _ (pj_mF_n (by rw [h3]; decide))) (hK.2.2 _ (pj_mN_n (by rw [h4]; decide))) (hK.2.2 _ (pj_mN_n (by rw [h5]; decide))) (hK.2.2 _ (pj_mN_n (by rw [h6]; decide)))
/-- behind k steps, top on the stack -/
def pj_vq (G : pj_G) (k t : Int32) : Prop := ∃ r, pj_vp (fun j => pj_ai G 182 j) ((pj_fi G 171 26).toInt - k.toInt).toNat k.toInt.toNat t.toInt.toNat = some r
theorem pj_vq_0 {G : pj_G} (h : pj_RI G) : pj_vq G (Int32.ofInt 0) (Int32.ofInt 0) := by
  have e : (Int32.ofInt 0).toInt = 0 := by decide
  unfold pj_vq
  rw [e, Int.sub_zero]
  exact h.2
theorem pj_vq_s {G : pj_G} {k t : Int32} (h : pj_vq G k t) (h0 : 0 ≤ k.toInt) (h1 : k.toInt < (pj_fi G 171 26).toInt) (h2 : 0 ≤ t.toInt) : ((pj_ai G 182 k.toInt.toNat).toInt = 3000 → 1 ≤ t.toInt) ∧ ((pj_ai G 182 k.toInt.toNat).toInt ≠ 3000 → 2000 ≤ (pj_ai G 182 k.toInt.toNat).toInt → 2 ≤ t.toInt) ∧ (∀ k' t' : Int32, k'.toInt = k.toInt + 1 → (((pj_ai G 182 k.toInt.toNat).toInt = 3000 ∧ t'.toInt = t.toInt) ∨ ((pj_ai G 182 k.toInt.toNat).toInt ≠ 3000 ∧ 2000 ≤ (pj_ai G 182 k.toInt.toNat).toInt ∧ t'.toInt = t.toInt - 1) ∨ ((pj_ai G 182 k.toInt.toNat).toInt < 2000 ∧ t'.toInt = t.toInt + 1)) → pj_vq G k' t') := by
  obtain ⟨r, h⟩ := h
  obtain ⟨n, hn⟩ : ∃ n, ((pj_fi G 171 26).toInt - k.toInt).toNat = n + 1 := ⟨((pj_fi G 171 26).toInt - k.toInt).toNat - 1, by omega⟩
  rw [hn] at h
  have h : (if (pj_ai G 182 k.toInt.toNat).toInt = 3000 then (if 1 ≤ t.toInt.toNat then pj_vp (fun j => pj_ai G 182 j) n (k.toInt.toNat + 1) t.toInt.toNat else none) else if 2000 ≤ (pj_ai G 182 k.toInt.toNat).toInt then (if 2 ≤ t.toInt.toNat then pj_vp (fun j => pj_ai G 182 j) n (k.toInt.toNat + 1) (t.toInt.toNat - 1) else none) else pj_vp (fun j => pj_ai G 182 j) n (k.toInt.toNat + 1) (t.toInt.toNat + 1)) = some r := h
  split at h
  · rename_i e
    split at h
    · refine ⟨fun _ => by omega, fun q => absurd e q, fun k' t' hk ht => ⟨r, ?_⟩⟩
      rw [show ((pj_fi G 171 26).toInt - k'.toInt).toNat = n by omega, show k'.toInt.toNat = k.toInt.toNat + 1 by omega, show t'.toInt.toNat = t.toInt.toNat by omega]
      exact h
    · cases h
  · rename_i e
    split at h
    · rename_i e2
      split at h
      · refine ⟨fun q => absurd q e, fun _ _ => by omega, fun k' t' hk ht => ⟨r, ?_⟩⟩
        rw [show ((pj_fi G 171 26).toInt - k'.toInt).toNat = n by omega, show k'.toInt.toNat = k.toInt.toNat + 1 by omega, show t'.toInt.toNat = t.toInt.toNat - 1 by omega]
        exact h
      · cases h
    · refine ⟨fun q => absurd q e, fun _ q => by omega, fun k' t' hk ht => ⟨r, ?_⟩⟩
      rw [show ((pj_fi G 171 26).toInt - k'.toInt).toNat = n by omega, show k'.toInt.toNat = k.toInt.toNat + 1 by omega, show t'.toInt.toNat = t.toInt.toNat + 1 by omega]
      exact h
theorem ct_201 (G0 : pj_G) (hI : pj_Inv G0) (act : Int32) (a : Int32) (b : Int32) : pj_Y 2 201 [.int act, .int a, .int b] G0 (fun v G' => ∃ y : Int32, v = some (.int y) ∧ G0 = G' ∧ ((-2147483648 : Int) ≤ y.toInt ∧ y.toInt ≤ 2147483647)) := by
  have c0_ : (Int32.ofInt 0).toInt = 0 := by decide
  have c1_ : (Int32.ofInt 1).toInt = 1 := by decide
  refine pj_Y_X (M := pj_m201) rfl rfl (Nat.le_of_ble_eq_true rfl) ?_
  have hK : pj_kpt ([], [], []) G0 G0 := pj_kpt_r _ _
  show pj_X _ _ G0 0 [(0, .int act), (1, .int a), (2, .int b)] [] _
  refine pj_X_of (fun r h => pj_R_to (G0, 1, [(0, .int act), (1, .int a), (2, .int b)], [.int act], 0, 0) 1 2 (fun _ => rfl) h) ?_
  by_cases t1 : act.toInt = 0
  · refine pj_X_of (fun r h => pj_R_tw 40 rfl (n := 0) t1 rfl h) ?_
    refine pj_X_of (fun r h => pj_R_to (G0, 42, [(0, .int act), (1, .int a), (2, .int b)], [.int b, .int a], 0, 0) 42 3 (fun _ => rfl) h) ?_
    cases b2 : pj_c1 .ge a b with
    | true =>
      have ub2 := pj_u_geT b2
      refine pj_X_of (fun r h => pj_R_icT 49 rfl rfl b2 h) ?_
      refine pj_X_of (fun r h => pj_R_to (G0, 50, [(0, .int act), (1, .int a), (2, .int b)], [.int (Int32.ofInt 0)], 0, 0) 50 2 (fun _ => rfl) h) ?_
      refine pj_X_ca (vs := [.int (Int32.ofInt 0)]) rfl (fun _ => rfl) ⟨Nat.le_of_ble_eq_true rfl, Nat.le_of_ble_eq_true rfl, rfl⟩ ⟨rfl, rfl⟩ (pj_Y_up (by decide) (ct_172 G0 hI (Int32.ofInt 0) ⟨by omega, by omega⟩)) ?_
      rintro _ _ ⟨y3, rfl, rfl, ry3, ey3⟩
      show pj_X _ _ G0 53 [(0, .int act), (1, .int a), (2, .int b)] [.int y3] _
      exact pj_X_rt rfl rfl ⟨_, rfl, rfl, pj_i32 _⟩
    | false =>
      have ub2 := pj_u_geF b2
      refine pj_X_of (fun r h => pj_R_icF rfl b2 h) ?_
      refine pj_X_of (fun r h => pj_R_to (G0, 50, [(0, .int act), (1, .int a), (2, .int b)], [.int (Int32.ofInt 1)], 0, 0) 50 3 (fun _ => rfl) h) ?_
      refine pj_X_ca (vs := [.int (Int32.ofInt 1)]) rfl (fun _ => rfl) ⟨Nat.le_of_ble_eq_true rfl, Nat.le_of_ble_eq_true rfl, rfl⟩ ⟨rfl, rfl⟩ (pj_Y_up (by decide) (ct_172 G0 hI (Int32.ofInt 1) ⟨by omega, by omega⟩)) ?_
      rintro _ _ ⟨y4, rfl, rfl, ry4, ey4⟩
      show pj_X _ _ G0 53 [(0, .int act), (1, .int a), (2, .int b)] [.int y4] _
      exact pj_X_rt rfl rfl ⟨_, rfl, rfl, pj_i32 _⟩
  by_cases t5 : act.toInt = 1
  · refine pj_X_of (fun r h => pj_R_tw 54 rfl (n := 1) t5 rfl h) ?_
    refine pj_X_of (fun r h => pj_R_to (G0, 56, [(0, .int act), (1, .int a), (2, .int b)], [.int b, .int a], 0, 0) 56 3 (fun _ => rfl) h) ?_
    cases b6 : pj_c1 .le a b with
    | true =>
      have ub6 := pj_u_leT b6
      refine pj_X_of (fun r h => pj_R_icT 63 rfl rfl b6 h) ?_
      refine pj_X_of (fun r h => pj_R_to (G0, 64, [(0, .int act), (1, .int a), (2, .int b)], [.int (Int32.ofInt 0)], 0, 0) 64 2 (fun _ => rfl) h) ?_
      refine pj_X_ca (vs := [.int (Int32.ofInt 0)]) rfl (fun _ => rfl) ⟨Nat.le_of_ble_eq_true rfl, Nat.le_of_ble_eq_true rfl, rfl⟩ ⟨rfl, rfl⟩ (pj_Y_up (by decide) (ct_172 G0 hI (Int32.ofInt 0) ⟨by omega, by omega⟩)) ?_
      rintro _ _ ⟨y7, rfl, rfl, ry7, ey7⟩
      show pj_X _ _ G0 67 [(0, .int act), (1, .int a), (2, .int b)] [.int y7] _
      exact pj_X_rt rfl rfl ⟨_, rfl, rfl, pj_i32 _⟩
    | false =>
      have ub6 := pj_u_leF b6
      refine pj_X_of (fun r h => pj_R_icF rfl b6 h) ?_
      refine pj_X_of (fun r h => pj_R_to (G0, 64, [(0, .int act), (1, .int a), (2, .int b)], [.int (Int32.ofInt 1)], 0, 0) 64 3 (fun _ => rfl) h) ?_
      refine pj_X_ca (vs := [.int (Int32.ofInt 1)]) rfl (fun _ => rfl) ⟨Nat.le_of_ble_eq_true rfl, Nat.le_of_ble_eq_true rfl, rfl⟩ ⟨rfl, rfl⟩ (pj_Y_up (by decide) (ct_172 G0 hI (Int32.ofInt 1) ⟨by omega, by omega⟩)) ?_
      rintro _ _ ⟨y8, rfl, rfl, ry8, ey8⟩
      show pj_X _ _ G0 67 [(0, .int act), (1, .int a), (2, .int b)] [.int y8] _
      exact pj_X_rt rfl rfl ⟨_, rfl, rfl, pj_i32 _⟩
  by_cases t9 : act.toInt = 2
  · refine pj_X_of (fun r h => pj_R_tw 68 rfl (n := 2) t9 rfl h) ?_
    refine pj_X_of (fun r h => pj_R_to (G0, 70, [(0, .int act), (1, .int a), (2, .int b)], [.int b, .int a], 0, 0) 70 3 (fun _ => rfl) h) ?_
    cases b10 : pj_c1 .ne a b with
    | true =>
      have ub10 := pj_u_neT b10
      refine pj_X_of (fun r h => pj_R_icT 77 rfl rfl b10 h) ?_
      refine pj_X_of (fun r h => pj_R_to (G0, 78, [(0, .int act), (1, .int a), (2, .int b)], [.int (Int32.ofInt 0)], 0, 0) 78 2 (fun _ => rfl) h) ?_
      refine pj_X_ca (vs := [.int (Int32.ofInt 0)]) rfl (fun _ => rfl) ⟨Nat.le_of_ble_eq_true rfl, Nat.le_of_ble_eq_true rfl, rfl⟩ ⟨rfl, rfl⟩ (pj_Y_up (by decide) (ct_172 G0 hI (Int32.ofInt 0) ⟨by omega, by omega⟩)) ?_
      rintro _ _ ⟨y11, rfl, rfl, ry11, ey11⟩
      show pj_X _ _ G0 81 [(0, .int act), (1, .int a), (2, .int b)] [.int y11] _
      exact pj_X_rt rfl rfl ⟨_, rfl, rfl, pj_i32 _⟩
    | false =>
      have ub10 := pj_u_neF b10
      refine pj_X_of (fun r h => pj_R_icF rfl b10 h) ?_
      refine pj_X_of (fun r h => pj_R_to (G0, 78, [(0, .int act), (1, .int a), (2, .int b)], [.int (Int32.ofInt 1)], 0, 0) 78 3 (fun _ => rfl) h) ?_
      refine pj_X_ca (vs := [.int (Int32.ofInt 1)]) rfl (fun _ => rfl) ⟨Nat.le_of_ble_eq_true rfl, Nat.le_of_ble_eq_true rfl, rfl⟩ ⟨rfl, rfl⟩ (pj_Y_up (by decide) (ct_172 G0 hI (Int32.ofInt 1) ⟨by omega, by omega⟩)) ?_
      rintro _ _ ⟨y12, rfl, rfl, ry12, ey12⟩
      show pj_X _ _ G0 81 [(0, .int act), (1, .int a), (2, .int b)] [.int y12] _
      exact pj_X_rt rfl rfl ⟨_, rfl, rfl, pj_i32 _⟩
  by_cases t13 : act.toInt = 3
  · refine pj_X_of (fun r h => pj_R_tw 82 rfl (n := 3) t13 rfl h) ?_
    refine pj_X_of (fun r h => pj_R_to (G0, 85, [(0, .int act), (1, .int a), (2, .int b)], [.int (a + b)], 0, 0) 85 4 (fun _ => rfl) h) ?_
    obtain ⟨z14, hz14⟩ : ∃ z : Int32, z = a + b := ⟨_, rfl⟩
    refine pj_X_eqi hz14.symm ?_
    exact pj_X_rt rfl rfl ⟨_, rfl, rfl, pj_i32 _⟩
  by_cases t15 : act.toInt = 4
  · refine pj_X_of (fun r h => pj_R_tw 86 rfl (n := 4) t15 rfl h) ?_
    refine pj_X_of (fun r h => pj_R_to (G0, 89, [(0, .int act), (1, .int a), (2, .int b)], [.int (a - b)], 0, 0) 89 4 (fun _ => rfl) h) ?_
    obtain ⟨z16, hz16⟩ : ∃ z : Int32, z = a - b := ⟨_, rfl⟩
    refine pj_X_eqi hz16.symm ?_
    exact pj_X_rt rfl rfl ⟨_, rfl, rfl, pj_i32 _⟩
  by_cases t17 : act.toInt = 5
  · refine pj_X_of (fun r h => pj_R_tw 90 rfl (n := 5) t17 rfl h) ?_
    refine pj_X_of (fun r h => pj_R_to (G0, 93, [(0, .int act), (1, .int a), (2, .int b)], [.int (a * b)], 0, 0) 93 4 (fun _ => rfl) h) ?_
    obtain ⟨z18, hz18⟩ : ∃ z : Int32, z = a * b := ⟨_, rfl⟩
    refine pj_X_eqi hz18.symm ?_
    exact pj_X_rt rfl rfl ⟨_, rfl, rfl, pj_i32 _⟩
  refine pj_X_of (fun r h => pj_R_td 94 rfl (by omega) rfl h) ?_
  refine pj_X_of (fun r h => pj_R_to (G0, 95, [(0, .int act), (1, .int a), (2, .int b)], [.int b], 0, 0) 95 2 (fun _ => rfl) h) ?_
  cases b19 : pj_c1 .ne b 0 with
  | true =>
    have ub19 := pj_u0_neT b19
    refine pj_X_of (fun r h => pj_R_ifT 102 rfl rfl b19 h) ?_
    refine pj_X_of (fun r h => pj_R_to (G0, 104, [(0, .int act), (1, .int a), (2, .int b)], [.int b, .int a], 0, 0) 104 3 (fun _ => rfl) h) ?_
    refine pj_X_of (fun r h => pj_R_dv rfl (pj_nz (by omega)) h) ?_
    show pj_X _ _ G0 105 [(0, .int act), (1, .int a), (2, .int b)] [.int (a / b)] _
    obtain ⟨z20, hz20⟩ : ∃ z : Int32, z = a / b := ⟨_, rfl⟩
    refine pj_X_eqi hz20.symm ?_
    exact pj_X_rt rfl rfl ⟨_, rfl, rfl, pj_i32 _⟩
  | false =>
    have ub19 := pj_u0_neF b19
    refine pj_X_of (fun r h => pj_R_ifF rfl b19 h) ?_
    refine pj_X_of (fun r h => pj_R_to (G0, 105, [(0, .int act), (1, .int a), (2, .int b)], [.int (Int32.ofInt 0)], 0, 0) 105 3 (fun _ => rfl) h) ?_
    exact pj_X_rt rfl rfl ⟨_, rfl, rfl, pj_i32 _⟩
def kc_202 : pj_KT := ([], [184], [184])
theorem lp_ct_202 (G0 : pj_G) (hI0 : pj_Inv G0) (p0_ : pj_RI G0) : ∀ mn : Nat, (∀ (G : pj_G) (hI : pj_Inv G) (hK : pj_kpt kc_202 G0 G) (v1 : Int32) (v2 : Int32), ((0 : Int) ≤ v1.toInt ∧ v1.toInt ≤ 80) → ((0 : Int) ≤ v2.toInt ∧ v2.toInt ≤ 80) → (pj_vq G0 v2 v1) → (v1.toInt ≤ v2.toInt) → 80 - v2.toInt < (mn : Int) → pj_X 2 pj_m202 G 4 [(0, .ref 171), (1, .int v1), (2, .int v2)] [] (fun v G' => ∃ y : Int32, v = some (.int y) ∧ pj_Inv G' ∧ pj_kpt kc_202 G0 G' ∧ ((1 : Int) ≤ y.toInt ∧ y.toInt ≤ 99))) := by
  have c0_ : ((Int16.ofInt 1000).toInt32).toInt = 1000 := by decide
  have c1_ : ((Int16.ofInt 2000).toInt32).toInt = 2000 := by decide
  have c2_ : ((Int16.ofInt 3000).toInt32).toInt = 3000 := by decide
  have c3_ : ((Int8.ofInt 9).toInt32).toInt = 9 := by decide
  have c4_ : ((Int8.ofInt 99).toInt32).toInt = 99 := by decide
  have c5_ : (Int32.ofInt (-1)).toInt = -1 := by decide
  have c6_ : (Int32.ofInt 0).toInt = 0 := by decide
  have c7_ : (Int32.ofInt 1).toInt = 1 := by decide
  have c8_ : (Int32.ofInt 2).toInt = 2 := by decide
  intro mn
  induction mn with
  | zero =>
    intro G hI hK v1 v2 rv1 rv2 x0_ x1_ hm
    exfalso
    omega
  | succ mn ih =>
    intro G hI hK v1 v2 rv1 rv2 x0_ x1_ hm
    obtain ⟨y1, hy1⟩ : ∃ z : Int32, z = pj_fi G 171 26 := ⟨_, rfl⟩
    have ey1 : (pj_fi G 171 26).toInt = y1.toInt := by rw [hy1]
    have ry1 : (0 : Int) ≤ y1.toInt ∧ y1.toInt ≤ 80 := by rw [hy1]; exact hI.2.1 171 26 (0, 80) rfl
    refine pj_X_of (fun r h => pj_R_to (G, 6, [(0, .ref 171), (1, .int v1), (2, .int v2)], [.ref 171, .int v2], 0, 0) 6 3 (fun _ => rfl) h) ?_
    refine pj_X_of (fun r h => pj_T_gi hI rfl rfl h) ?_
    show pj_X _ _ G 9 [(0, .ref 171), (1, .int v1), (2, .int v2)] [.int (pj_fi G 171 26), .int v2] _
    refine pj_X_eqi (show pj_fi G 171 26 = y1 from hy1.symm) ?_
    cases b2 : pj_c1 .ge v2 y1 with
    | true =>
      have ub2 := pj_u_geT b2
      refine pj_X_of (fun r h => pj_R_icT 125 rfl rfl b2 h) ?_
      refine pj_X_of (fun r h => pj_R_to (G, 126, [(0, .ref 171), (1, .int v1), (2, .int v2)], [.ref 171], 0, 0) 126 2 (fun _ => rfl) h) ?_
      refine pj_X_of (fun r h => pj_T_gi hI rfl rfl h) ?_
      show pj_X _ _ G 129 [(0, .ref 171), (1, .int v1), (2, .int v2)] [.int (pj_fi G 171 26)] _
      refine pj_X_eqi (show pj_fi G 171 26 = y1 from hy1.symm) ?_
      cases b3 : pj_c1 .ne y1 0 with
      | true =>
        have ub3 := pj_u0_neT b3
        refine pj_X_of (fun r h => pj_R_ifT 155 rfl rfl b3 h) ?_
        refine pj_X_of (fun r h => pj_R_to (G, 156, [(0, .ref 171), (1, .int v1), (2, .int v2)], [.ref 171], 0, 0) 156 2 (fun _ => rfl) h) ?_
        refine pj_X_of (fun r h => pj_T_gr hI rfl rfl rfl h) ?_
        refine pj_X_of (fun r h => pj_R_to (G, 160, [(0, .ref 171), (1, .int v1), (2, .int v2)], [.int (Int32.ofInt 0), .ref 184], 0, 0) 160 2 (fun _ => rfl) h) ?_
        refine pj_X_of (fun r h => pj_T_il hI rfl rfl (by omega) (by omega) h) ?_
        show pj_X _ _ G 161 [(0, .ref 171), (1, .int v1), (2, .int v2)] [.int (pj_ai G 184 (Int32.ofInt 0).toInt.toNat)] _
        obtain ⟨z4, hz4⟩ : ∃ z : Int32, z = pj_ai G 184 (Int32.ofInt 0).toInt.toNat := ⟨_, rfl⟩
        refine pj_X_eqi hz4.symm ?_
        have ez4 : (pj_ai G 184 (Int32.ofInt 0).toInt.toNat).toInt = z4.toInt := by rw [hz4]
        refine pj_X_of (fun r h => pj_R_to (G, 166, [(2, .int z4), (0, .ref 171), (1, .int v1)], [.int z4, .int ((Int8.ofInt 99).toInt32), .int (Int32.ofInt 1)], 0, 0) 166 5 (fun _ => rfl) h) ?_
        refine pj_X_of (fun r h => pj_R_mn (v := (if z4 < ((Int8.ofInt 99).toInt32) then z4 else ((Int8.ofInt 99).toInt32))) rfl rfl rfl (Nat.le_of_ble_eq_true rfl) h) ?_
        show pj_X _ _ G 169 [(2, .int z4), (0, .ref 171), (1, .int v1)] [.int (if z4 < ((Int8.ofInt 99).toInt32) then z4 else ((Int8.ofInt 99).toInt32)), .int (Int32.ofInt 1)] _
        obtain ⟨z5, hz5⟩ : ∃ z : Int32, z = (if z4 < ((Int8.ofInt 99).toInt32) then z4 else ((Int8.ofInt 99).toInt32)) := ⟨_, rfl⟩
        refine pj_X_eqi hz5.symm ?_
        have fz5_0 : z5.toInt ≤ ((Int8.ofInt 99).toInt32).toInt ∧ z5.toInt ≤ z4.toInt ∧ (z5.toInt = ((Int8.ofInt 99).toInt32).toInt ∨ z5.toInt = z4.toInt) := by rw [hz5]; exact pj_minI
        refine pj_X_of (fun r h => pj_R_mx (v := (if (Int32.ofInt 1) < z5 then z5 else (Int32.ofInt 1))) rfl rfl rfl (Nat.le_of_ble_eq_true rfl) h) ?_
        show pj_X _ _ G 172 [(2, .int z4), (0, .ref 171), (1, .int v1)] [.int (if (Int32.ofInt 1) < z5 then z5 else (Int32.ofInt 1))] _
        obtain ⟨z6, hz6⟩ : ∃ z : Int32, z = (if (Int32.ofInt 1) < z5 then z5 else (Int32.ofInt 1)) := ⟨_, rfl⟩
        refine pj_X_eqi hz6.symm ?_
        have fz6_0 : (Int32.ofInt 1).toInt ≤ z6.toInt ∧ z5.toInt ≤ z6.toInt ∧ (z6.toInt = (Int32.ofInt 1).toInt ∨ z6.toInt = z5.toInt) := by rw [hz6]; exact pj_maxI
        have q7 : (pj_fi G 171 26).toInt = y1.toInt := by rw [show pj_fi G 171 26 = y1 from hy1.symm]
        exact pj_X_rt rfl rfl ⟨_, rfl, hI, hK, ⟨by omega, by omega⟩⟩
      | false =>
        have ub3 := pj_u0_neF b3
        refine pj_X_of (fun r h => pj_R_ifF rfl b3 h) ?_
        refine pj_X_of (fun r h => pj_R_to (G, 133, [(0, .ref 171), (1, .int v1), (2, .int v2)], [.ref 171], 0, 0) 133 2 (fun _ => rfl) h) ?_
        refine pj_X_of (fun r h => pj_T_gr hI rfl rfl rfl h) ?_
        refine pj_X_of (fun r h => pj_R_to (G, 137, [(0, .ref 171), (1, .int v1), (2, .int v2)], [.int (Int32.ofInt 0), .ref 185], 0, 0) 137 2 (fun _ => rfl) h) ?_
        refine pj_X_of (fun r h => pj_T_il hI rfl rfl (by omega) (by omega) h) ?_
        show pj_X _ _ G 138 [(0, .ref 171), (1, .int v1), (2, .int v2)] [.int (pj_ai G 185 (Int32.ofInt 0).toInt.toNat)] _
        obtain ⟨z8, hz8⟩ : ∃ z : Int32, z = pj_ai G 185 (Int32.ofInt 0).toInt.toNat := ⟨_, rfl⟩
        refine pj_X_eqi hz8.symm ?_
        have ez8 : (pj_ai G 185 (Int32.ofInt 0).toInt.toNat).toInt = z8.toInt := by rw [hz8]
        refine pj_X_of (fun r h => pj_R_to (G, 140, [(0, .ref 171), (1, .int v1), (2, .int v2)], [.int ((Int8.ofInt 9).toInt32), .int z8], 0, 0) 140 2 (fun _ => rfl) h) ?_
        refine pj_X_of (fun r h => pj_R_dv rfl (pj_nz (by omega)) h) ?_
        show pj_X _ _ G 141 [(0, .ref 171), (1, .int v1), (2, .int v2)] [.int (z8 / ((Int8.ofInt 9).toInt32))] _
        obtain ⟨z9, hz9⟩ : ∃ z : Int32, z = z8 / ((Int8.ofInt 9).toInt32) := ⟨_, rfl⟩
        refine pj_X_eqi hz9.symm ?_
        refine pj_X_of (fun r h => pj_R_to (G, 143, [(0, .ref 171), (1, .int v1), (2, .int v2)], [.ref 171, .int (Int32.ofInt 2), .int z9], 0, 0) 143 3 (fun _ => rfl) h) ?_
        refine pj_X_of (fun r h => pj_T_gr hI rfl rfl rfl h) ?_
        refine pj_X_of (fun r h => pj_R_to (G, 147, [(0, .ref 171), (1, .int v1), (2, .int v2)], [.int (Int32.ofInt 1), .ref 185, .int (Int32.ofInt 2), .int z9], 0, 0) 147 2 (fun _ => rfl) h) ?_
        refine pj_X_of (fun r h => pj_T_il hI rfl rfl (by omega) (by omega) h) ?_
        show pj_X _ _ G 148 [(0, .ref 171), (1, .int v1), (2, .int v2)] [.int (pj_ai G 185 (Int32.ofInt 1).toInt.toNat), .int (Int32.ofInt 2), .int z9] _
        obtain ⟨z10, hz10⟩ : ∃ z : Int32, z = pj_ai G 185 (Int32.ofInt 1).toInt.toNat := ⟨_, rfl⟩
        refine pj_X_eqi hz10.symm ?_
        have ez10 : (pj_ai G 185 (Int32.ofInt 1).toInt.toNat).toInt = z10.toInt := by rw [hz10]
        refine pj_X_of (fun r h => pj_R_to (G, 149, [(0, .ref 171), (1, .int v1), (2, .int v2)], [.int ((Int32.ofInt 2) * z10), .int z9], 0, 0) 149 2 (fun _ => rfl) h) ?_
        obtain ⟨z11, hz11⟩ : ∃ z : Int32, z = (Int32.ofInt 2) * z10 := ⟨_, rfl⟩
        refine pj_X_eqi hz11.symm ?_
        refine pj_X_of (fun r h => pj_R_to (G, 150, [(0, .ref 171), (1, .int v1), (2, .int v2)], [.int (z9 + z11)], 0, 0) 150 2 (fun _ => rfl) h) ?_
        obtain ⟨z12, hz12⟩ : ∃ z : Int32, z = z9 + z11 := ⟨_, rfl⟩
        refine pj_X_eqi hz12.symm ?_
        refine pj_X_of (fun r h => pj_R_to (G, 152, [(0, .ref 171), (1, .int v1), (2, .int v2)], [.int (z12 + (Int32.ofInt 1))], 0, 0) 152 3 (fun _ => rfl) h) ?_
        obtain ⟨z13, hz13⟩ : ∃ z : Int32, z = z12 + (Int32.ofInt 1) := ⟨_, rfl⟩
        refine pj_X_eqi hz13.symm ?_
        refine pj_X_of (fun r h => pj_R_to (G, 166, [(2, .int z13), (0, .ref 171), (1, .int v1)], [.int z13, .int ((Int8.ofInt 99).toInt32), .int (Int32.ofInt 1)], 0, 0) 166 6 (fun _ => rfl) h) ?_
        refine pj_X_of (fun r h => pj_R_mn (v := (if z13 < ((Int8.ofInt 99).toInt32) then z13 else ((Int8.ofInt 99).toInt32))) rfl rfl rfl (Nat.le_of_ble_eq_true rfl) h) ?_
        show pj_X _ _ G 169 [(2, .int z13), (0, .ref 171), (1, .int v1)] [.int (if z13 < ((Int8.ofInt 99).toInt32) then z13 else ((Int8.ofInt 99).toInt32)), .int (Int32.ofInt 1)] _
        obtain ⟨z14, hz14⟩ : ∃ z : Int32, z = (if z13 < ((Int8.ofInt 99).toInt32) then z13 else ((Int8.ofInt 99).toInt32)) := ⟨_, rfl⟩
        refine pj_X_eqi hz14.symm ?_
        have fz14_0 : z14.toInt ≤ ((Int8.ofInt 99).toInt32).toInt ∧ z14.toInt ≤ z13.toInt ∧ (z14.toInt = ((Int8.ofInt 99).toInt32).toInt ∨ z14.toInt = z13.toInt) := by rw [hz14]; exact pj_minI
        refine pj_X_of (fun r h => pj_R_mx (v := (if (Int32.ofInt 1) < z14 then z14 else (Int32.ofInt 1))) rfl rfl rfl (Nat.le_of_ble_eq_true rfl) h) ?_
        show pj_X _ _ G 172 [(2, .int z13), (0, .ref 171), (1, .int v1)] [.int (if (Int32.ofInt 1) < z14 then z14 else (Int32.ofInt 1))] _
        obtain ⟨z15, hz15⟩ : ∃ z : Int32, z = (if (Int32.ofInt 1) < z14 then z14 else (Int32.ofInt 1)) := ⟨_, rfl⟩
        refine pj_X_eqi hz15.symm ?_
        have fz15_0 : (Int32.ofInt 1).toInt ≤ z15.toInt ∧ z14.toInt ≤ z15.toInt ∧ (z15.toInt = (Int32.ofInt 1).toInt ∨ z15.toInt = z14.toInt) := by rw [hz15]; exact pj_maxI
        have q16 : (pj_fi G 171 26).toInt = y1.toInt := by rw [show pj_fi G 171 26 = y1 from hy1.symm]
        exact pj_X_rt rfl rfl ⟨_, rfl, hI, hK, ⟨by omega, by omega⟩⟩
    | false =>
      have ub2 := pj_u_geF b2
      refine pj_X_of (fun r h => pj_R_icF rfl b2 h) ?_
      refine pj_X_of (fun r h => pj_R_to (G, 13, [(0, .ref 171), (1, .int v1), (2, .int v2)], [.ref 171], 0, 0) 13 2 (fun _ => rfl) h) ?_
      refine pj_X_of (fun r h => pj_T_gr hI rfl rfl rfl h) ?_
      refine pj_X_of (fun r h => pj_R_to (G, 17, [(0, .ref 171), (1, .int v1), (2, .int v2)], [.int v2, .ref 182], 0, 0) 17 2 (fun _ => rfl) h) ?_
      refine pj_X_of (fun r h => pj_T_il hI rfl rfl (by omega) (by omega) h) ?_
      show pj_X _ _ G 18 [(0, .ref 171), (1, .int v1), (2, .int v2)] [.int (pj_ai G 182 v2.toInt.toNat)] _
      obtain ⟨z17, hz17⟩ : ∃ z : Int32, z = pj_ai G 182 v2.toInt.toNat := ⟨_, rfl⟩
      refine pj_X_eqi hz17.symm ?_
      have ez17 : (pj_ai G 182 v2.toInt.toNat).toInt = z17.toInt := by rw [hz17]
      have fz17_0 : (-1 : Int) ≤ z17.toInt ∧ z17.toInt ≤ 3000 ∧ (z17.toInt ≤ 1006 ∨ 2000 ≤ z17.toInt) := by rw [hz17]; exact hI.2.2.1 182 (80, -1, 3000, 1006, 2000) rfl _ (by show _ < 80; omega)
      refine pj_X_of (fun r h => pj_R_to (G, 19, [(3, .int z17), (0, .ref 171), (1, .int v1), (2, .int v2)], [], 0, 0) 19 2 (fun _ => rfl) h) ?_
      have hc0 : (pj_ai G0 182 v2.toInt.toNat).toInt = z17.toInt := by rw [hz17, hK.2.2 182 (by decide)]
      have hl0 : (pj_fi G0 171 26).toInt = y1.toInt := by rw [hy1, hK.1 (171, 26) (by decide)]
      obtain ⟨hA, hB, hN⟩ := pj_vq_s x0_ (by omega) (by omega) (by omega)
      rw [hc0] at hA hB hN
      refine pj_X_of (fun r h => pj_R_to (G, 23, [(3, .int z17), (0, .ref 171), (1, .int v1), (2, .int v2)], [.int ((Int16.ofInt 3000).toInt32), .int z17], 0, 0) 23 3 (fun _ => rfl) h) ?_
      cases b18 : pj_c1 .ne z17 ((Int16.ofInt 3000).toInt32) with
      | true =>
        have ub18 := pj_u_neT b18
        refine pj_X_of (fun r h => pj_R_icT 46 rfl rfl b18 h) ?_
        refine pj_X_of (fun r h => pj_R_to (G, 50, [(3, .int z17), (0, .ref 171), (1, .int v1), (2, .int v2)], [.int ((Int16.ofInt 2000).toInt32), .int z17], 0, 0) 50 3 (fun _ => rfl) h) ?_
        cases b19 : pj_c1 .lt z17 ((Int16.ofInt 2000).toInt32) with
        | true =>
          have ub19 := pj_u_ltT b19
          refine pj_X_of (fun r h => pj_R_icT 89 rfl rfl b19 h) ?_
          refine pj_X_of (fun r h => pj_R_to (G, 90, [(3, .int z17), (0, .ref 171), (1, .int v1), (2, .int v2)], [.ref 171], 0, 0) 90 2 (fun _ => rfl) h) ?_
          refine pj_X_of (fun r h => pj_T_gr hI rfl rfl rfl h) ?_
          refine pj_X_of (fun r h => pj_R_to (G, 98, [(3, .int z17), (0, .ref 171), (1, .int v1), (2, .int v2)], [.int ((Int16.ofInt 1000).toInt32), .int z17, .int v1, .ref 184], 0, 0) 98 4 (fun _ => rfl) h) ?_
          cases b20 : pj_c1 .lt z17 ((Int16.ofInt 1000).toInt32) with
          | true =>
            have ub20 := pj_u_ltT b20
            refine pj_X_of (fun r h => pj_R_icT 114 rfl rfl b20 h) ?_
            refine pj_X_of (fun r h => pj_R_to (G, 115, [(3, .int z17), (0, .ref 171), (1, .int v1), (2, .int v2)], [.int z17, .int v1, .ref 184], 0, 0) 115 2 (fun _ => rfl) h) ?_
            refine pj_X_of (fun r h => pj_T_is hI rfl rfl (by omega) (by omega) h) ?_
            show pj_X _ _ (pj_wa G 184 v1.toInt.toNat z17) 116 [(3, .int z17), (0, .ref 171), (1, .int v1), (2, .int v2)] [] _
            obtain ⟨G21, hG21⟩ : ∃ H, H = pj_wa G 184 v1.toInt.toNat z17 := ⟨_, rfl⟩
            have iG21 : pj_Inv G21 := by rw [hG21]; exact pj_Inv_wa hI rfl (fun q hq => by cases hq) (fun n hn => by cases hn)
            have kG21 : pj_kpt kc_202 G0 G21 := by rw [hG21]; exact pj_kpt_a hK rfl
            rw [← hG21]
            refine pj_X_of (fun r h => pj_R_to (G21, 119, [(1, .int (v1 + Int32.ofInt 1)), (3, .int z17), (0, .ref 171), (2, .int v2)], [], 0, 0) 119 2 (fun _ => rfl) h) ?_
            obtain ⟨z22, hz22⟩ : ∃ z : Int32, z = v1 + Int32.ofInt 1 := ⟨_, rfl⟩
            rw [← hz22]
            have fz22_0 : z22.toInt = v1.toInt + (Int32.ofInt 1).toInt := by rw [hz22]; exact pj_addI (by have := pj_i32 v1; have := pj_i32 (Int32.ofInt 1); omega) (by have := pj_i32 v1; have := pj_i32 (Int32.ofInt 1); omega)
            refine pj_X_of (fun r h => pj_R_to (G21, 122, [(2, .int (v2 + Int32.ofInt 1)), (1, .int z22), (3, .int z17), (0, .ref 171)], [], 0, 0) 122 2 (fun _ => rfl) h) ?_
            obtain ⟨z23, hz23⟩ : ∃ z : Int32, z = v2 + Int32.ofInt 1 := ⟨_, rfl⟩
            rw [← hz23]
            have fz23_0 : z23.toInt = v2.toInt + (Int32.ofInt 1).toInt := by rw [hz23]; exact pj_addI (by have := pj_i32 v2; have := pj_i32 (Int32.ofInt 1); omega) (by have := pj_i32 v2; have := pj_i32 (Int32.ofInt 1); omega)
            refine pj_X_of (fun r h => pj_R_to (G21, 4, [(2, .int z23), (1, .int z22), (3, .int z17), (0, .ref 171)], [], 0, 0) 4 2 (fun _ => rfl) h) ?_
            have q24 : (pj_fi G21 171 26).toInt = y1.toInt := by rw [show pj_fi G21 171 26 = y1 from by rw [hG21, pj_fi_wa]; exact hy1.symm]
            exact pj_X_sub [(0, .ref 171), (1, .int z22), (2, .int z23)] (show List.Nodup [0, 1, 2] by decide) ⟨rfl, rfl, rfl, trivial⟩ (ih G21 iG21 kG21 z22 z23 ⟨by omega, by omega⟩ ⟨by omega, by omega⟩ (hN _ _ (by omega) (by omega)) (by omega) (by omega))
          | false =>
            have ub20 := pj_u_ltF b20
            refine pj_X_of (fun r h => pj_R_icF rfl b20 h) ?_
            refine pj_X_of (fun r h => pj_R_to (G, 102, [(3, .int z17), (0, .ref 171), (1, .int v1), (2, .int v2)], [.ref 171, .int v1, .ref 184], 0, 0) 102 2 (fun _ => rfl) h) ?_
            refine pj_X_of (fun r h => pj_T_gr hI rfl rfl rfl h) ?_
            refine pj_X_of (fun r h => pj_R_to (G, 110, [(3, .int z17), (0, .ref 171), (1, .int v1), (2, .int v2)], [.int (z17 - ((Int16.ofInt 1000).toInt32)), .ref 185, .int v1, .ref 184], 0, 0) 110 4 (fun _ => rfl) h) ?_
            obtain ⟨z25, hz25⟩ : ∃ z : Int32, z = z17 - ((Int16.ofInt 1000).toInt32) := ⟨_, rfl⟩
            refine pj_X_eqi hz25.symm ?_
            have fz25_0 : z25.toInt = z17.toInt - ((Int16.ofInt 1000).toInt32).toInt := by rw [hz25]; exact pj_subI (by have := pj_i32 z17; have := pj_i32 ((Int16.ofInt 1000).toInt32); omega) (by have := pj_i32 z17; have := pj_i32 ((Int16.ofInt 1000).toInt32); omega)
            refine pj_X_of (fun r h => pj_T_il hI rfl rfl (by omega) (by omega) h) ?_
            show pj_X _ _ G 111 [(3, .int z17), (0, .ref 171), (1, .int v1), (2, .int v2)] [.int (pj_ai G 185 z25.toInt.toNat), .int v1, .ref 184] _
            obtain ⟨z26, hz26⟩ : ∃ z : Int32, z = pj_ai G 185 z25.toInt.toNat := ⟨_, rfl⟩
            refine pj_X_eqi hz26.symm ?_
            have ez26 : (pj_ai G 185 z25.toInt.toNat).toInt = z26.toInt := by rw [hz26]
            refine pj_X_of (fun r h => pj_R_to (G, 115, [(3, .int z17), (0, .ref 171), (1, .int v1), (2, .int v2)], [.int z26, .int v1, .ref 184], 0, 0) 115 2 (fun _ => rfl) h) ?_
            refine pj_X_of (fun r h => pj_T_is hI rfl rfl (by omega) (by omega) h) ?_
            show pj_X _ _ (pj_wa G 184 v1.toInt.toNat z26) 116 [(3, .int z17), (0, .ref 171), (1, .int v1), (2, .int v2)] [] _
            obtain ⟨G27, hG27⟩ : ∃ H, H = pj_wa G 184 v1.toInt.toNat z26 := ⟨_, rfl⟩
            have iG27 : pj_Inv G27 := by rw [hG27]; exact pj_Inv_wa hI rfl (fun q hq => by cases hq) (fun n hn => by cases hn)
            have kG27 : pj_kpt kc_202 G0 G27 := by rw [hG27]; exact pj_kpt_a hK rfl
            rw [← hG27]
            refine pj_X_of (fun r h => pj_R_to (G27, 119, [(1, .int (v1 + Int32.ofInt 1)), (3, .int z17), (0, .ref 171), (2, .int v2)], [], 0, 0) 119 2 (fun _ => rfl) h) ?_
            obtain ⟨z28, hz28⟩ : ∃ z : Int32, z = v1 + Int32.ofInt 1 := ⟨_, rfl⟩
            rw [← hz28]
            have fz28_0 : z28.toInt = v1.toInt + (Int32.ofInt 1).toInt := by rw [hz28]; exact pj_addI (by have := pj_i32 v1; have := pj_i32 (Int32.ofInt 1); omega) (by have := pj_i32 v1; have := pj_i32 (Int32.ofInt 1); omega)
            refine pj_X_of (fun r h => pj_R_to (G27, 122, [(2, .int (v2 + Int32.ofInt 1)), (1, .int z28), (3, .int z17), (0, .ref 171)], [], 0, 0) 122 2 (fun _ => rfl) h) ?_
            obtain ⟨z29, hz29⟩ : ∃ z : Int32, z = v2 + Int32.ofInt 1 := ⟨_, rfl⟩
            rw [← hz29]
            have fz29_0 : z29.toInt = v2.toInt + (Int32.ofInt 1).toInt := by rw [hz29]; exact pj_addI (by have := pj_i32 v2; have := pj_i32 (Int32.ofInt 1); omega) (by have := pj_i32 v2; have := pj_i32 (Int32.ofInt 1); omega)
            refine pj_X_of (fun r h => pj_R_to (G27, 4, [(2, .int z29), (1, .int z28), (3, .int z17), (0, .ref 171)], [], 0, 0) 4 2 (fun _ => rfl) h) ?_
            have q30 : (pj_fi G27 171 26).toInt = y1.toInt := by rw [show pj_fi G27 171 26 = y1 from by rw [hG27, pj_fi_wa]; exact hy1.symm]
            exact pj_X_sub [(0, .ref 171), (1, .int z28), (2, .int z29)] (show List.Nodup [0, 1, 2] by decide) ⟨rfl, rfl, rfl, trivial⟩ (ih G27 iG27 kG27 z28 z29 ⟨by omega, by omega⟩ ⟨by omega, by omega⟩ (hN _ _ (by omega) (by omega)) (by omega) (by omega))
        | false =>
          have ub19 := pj_u_ltF b19
          refine pj_X_of (fun r h => pj_R_icF rfl b19 h) ?_
          refine pj_X_of (fun r h => pj_R_to (G, 56, [(1, .int (v1 + Int32.ofInt (-1))), (3, .int z17), (0, .ref 171), (2, .int v2)], [], 0, 0) 56 2 (fun _ => rfl) h) ?_
          obtain ⟨z31, hz31⟩ : ∃ z : Int32, z = v1 + Int32.ofInt (-1) := ⟨_, rfl⟩
          rw [← hz31]
          have fz31_0 : z31.toInt = v1.toInt + (Int32.ofInt (-1)).toInt := by rw [hz31]; exact pj_addI (by have := pj_i32 v1; have := pj_i32 (Int32.ofInt (-1)); omega) (by have := pj_i32 v1; have := pj_i32 (Int32.ofInt (-1)); omega)
          refine pj_X_of (fun r h => pj_R_to (G, 57, [(1, .int z31), (3, .int z17), (0, .ref 171), (2, .int v2)], [.ref 171], 0, 0) 57 2 (fun _ => rfl) h) ?_
          refine pj_X_of (fun r h => pj_T_gr hI rfl rfl rfl h) ?_
          refine pj_X_of (fun r h => pj_R_to (G, 63, [(1, .int z31), (3, .int z17), (0, .ref 171), (2, .int v2)], [.int (z31 - (Int32.ofInt 1)), .ref 184], 0, 0) 63 4 (fun _ => rfl) h) ?_
          obtain ⟨z32, hz32⟩ : ∃ z : Int32, z = z31 - (Int32.ofInt 1) := ⟨_, rfl⟩
          refine pj_X_eqi hz32.symm ?_
          have fz32_0 : z32.toInt = z31.toInt - (Int32.ofInt 1).toInt := by rw [hz32]; exact pj_subI (by have := pj_i32 z31; have := pj_i32 (Int32.ofInt 1); omega) (by have := pj_i32 z31; have := pj_i32 (Int32.ofInt 1); omega)
          refine pj_X_of (fun r h => pj_R_to (G, 68, [(1, .int z31), (3, .int z17), (0, .ref 171), (2, .int v2)], [.int (z17 - ((Int16.ofInt 2000).toInt32)), .int z32, .ref 184], 0, 0) 68 4 (fun _ => rfl) h) ?_
          obtain ⟨z33, hz33⟩ : ∃ z : Int32, z = z17 - ((Int16.ofInt 2000).toInt32) := ⟨_, rfl⟩
          refine pj_X_eqi hz33.symm ?_
          have fz33_0 : z33.toInt = z17.toInt - ((Int16.ofInt 2000).toInt32).toInt := by rw [hz33]; exact pj_subI (by have := pj_i32 z17; have := pj_i32 ((Int16.ofInt 2000).toInt32); omega) (by have := pj_i32 z17; have := pj_i32 ((Int16.ofInt 2000).toInt32); omega)
          refine pj_X_of (fun r h => pj_R_to (G, 69, [(1, .int z31), (3, .int z17), (0, .ref 171), (2, .int v2)], [.ref 171, .int z33, .int z32, .ref 184], 0, 0) 69 2 (fun _ => rfl) h) ?_
          refine pj_X_of (fun r h => pj_T_gr hI rfl rfl rfl h) ?_
          refine pj_X_of (fun r h => pj_R_to (G, 75, [(1, .int z31), (3, .int z17), (0, .ref 171), (2, .int v2)], [.int (z31 - (Int32.ofInt 1)), .ref 184, .int z33, .int z32, .ref 184], 0, 0) 75 4 (fun _ => rfl) h) ?_
          obtain ⟨z34, hz34⟩ : ∃ z : Int32, z = z31 - (Int32.ofInt 1) := ⟨_, rfl⟩
          refine pj_X_eqi hz34.symm ?_
          have fz34_0 : z34.toInt = z31.toInt - (Int32.ofInt 1).toInt := by rw [hz34]; exact pj_subI (by have := pj_i32 z31; have := pj_i32 (Int32.ofInt 1); omega) (by have := pj_i32 z31; have := pj_i32 (Int32.ofInt 1); omega)
          refine pj_X_of (fun r h => pj_T_il hI rfl rfl (by omega) (by omega) h) ?_
          show pj_X _ _ G 76 [(1, .int z31), (3, .int z17), (0, .ref 171), (2, .int v2)] [.int (pj_ai G 184 z34.toInt.toNat), .int z33, .int z32, .ref 184] _
          obtain ⟨z35, hz35⟩ : ∃ z : Int32, z = pj_ai G 184 z34.toInt.toNat := ⟨_, rfl⟩
          refine pj_X_eqi hz35.symm ?_
          have ez35 : (pj_ai G 184 z34.toInt.toNat).toInt = z35.toInt := by rw [hz35]
          refine pj_X_of (fun r h => pj_R_to (G, 77, [(1, .int z31), (3, .int z17), (0, .ref 171), (2, .int v2)], [.ref 171, .int z35, .int z33, .int z32, .ref 184], 0, 0) 77 2 (fun _ => rfl) h) ?_
          refine pj_X_of (fun r h => pj_T_gr hI rfl rfl rfl h) ?_
          refine pj_X_of (fun r h => pj_R_to (G, 81, [(1, .int z31), (3, .int z17), (0, .ref 171), (2, .int v2)], [.int z31, .ref 184, .int z35, .int z33, .int z32, .ref 184], 0, 0) 81 2 (fun _ => rfl) h) ?_
          refine pj_X_of (fun r h => pj_T_il hI rfl rfl (by omega) (by omega) h) ?_
          show pj_X _ _ G 82 [(1, .int z31), (3, .int z17), (0, .ref 171), (2, .int v2)] [.int (pj_ai G 184 z31.toInt.toNat), .int z35, .int z33, .int z32, .ref 184] _
          obtain ⟨z36, hz36⟩ : ∃ z : Int32, z = pj_ai G 184 z31.toInt.toNat := ⟨_, rfl⟩
          refine pj_X_eqi hz36.symm ?_
          have ez36 : (pj_ai G 184 z31.toInt.toNat).toInt = z36.toInt := by rw [hz36]
          have q37 : (pj_fi G 171 26).toInt = y1.toInt := by rw [show pj_fi G 171 26 = y1 from hy1.symm]
          refine pj_X_ca (vs := [.int z33, .int z35, .int z36]) rfl (fun _ => rfl) ⟨Nat.le_of_ble_eq_true rfl, Nat.le_of_ble_eq_true rfl, rfl⟩ ⟨rfl, rfl⟩ (pj_Y_up (by decide) (ct_201 G hI z33 z35 z36)) ?_
          rintro _ _ ⟨y38, rfl, rfl, ry38⟩
          show pj_X _ _ G 85 [(1, .int z31), (3, .int z17), (0, .ref 171), (2, .int v2)] [.int y38, .int z32, .ref 184] _
          refine pj_X_of (fun r h => pj_T_is hI rfl rfl (by omega) (by omega) h) ?_
          show pj_X _ _ (pj_wa G 184 z32.toInt.toNat y38) 86 [(1, .int z31), (3, .int z17), (0, .ref 171), (2, .int v2)] [] _
          obtain ⟨G39, hG39⟩ : ∃ H, H = pj_wa G 184 z32.toInt.toNat y38 := ⟨_, rfl⟩
          have iG39 : pj_Inv G39 := by rw [hG39]; exact pj_Inv_wa hI rfl (fun q hq => by cases hq) (fun n hn => by cases hn)
          have kG39 : pj_kpt kc_202 G0 G39 := by rw [hG39]; exact pj_kpt_a hK rfl
          rw [← hG39]
          refine pj_X_of (fun r h => pj_R_to (G39, 122, [(2, .int (v2 + Int32.ofInt 1)), (1, .int z31), (3, .int z17), (0, .ref 171)], [], 0, 0) 122 3 (fun _ => rfl) h) ?_
          obtain ⟨z40, hz40⟩ : ∃ z : Int32, z = v2 + Int32.ofInt 1 := ⟨_, rfl⟩
          rw [← hz40]
          have fz40_0 : z40.toInt = v2.toInt + (Int32.ofInt 1).toInt := by rw [hz40]; exact pj_addI (by have := pj_i32 v2; have := pj_i32 (Int32.ofInt 1); omega) (by have := pj_i32 v2; have := pj_i32 (Int32.ofInt 1); omega)
          refine pj_X_of (fun r h => pj_R_to (G39, 4, [(2, .int z40), (1, .int z31), (3, .int z17), (0, .ref 171)], [], 0, 0) 4 2 (fun _ => rfl) h) ?_
          have q41 : (pj_fi G39 171 26).toInt = y1.toInt := by rw [show pj_fi G39 171 26 = y1 from by rw [hG39, pj_fi_wa]; exact hy1.symm]
          exact pj_X_sub [(0, .ref 171), (1, .int z31), (2, .int z40)] (show List.Nodup [0, 1, 2] by decide) ⟨rfl, rfl, rfl, trivial⟩ (ih G39 iG39 kG39 z31 z40 ⟨by omega, by omega⟩ ⟨by omega, by omega⟩ (hN _ _ (by omega) (by omega)) (by omega) (by omega))
      | false =>
        have ub18 := pj_u_neF b18
        refine pj_X_of (fun r h => pj_R_icF rfl b18 h) ?_
        refine pj_X_of (fun r h => pj_R_to (G, 27, [(3, .int z17), (0, .ref 171), (1, .int v1), (2, .int v2)], [.ref 171], 0, 0) 27 2 (fun _ => rfl) h) ?_
        refine pj_X_of (fun r h => pj_T_gr hI rfl rfl rfl h) ?_
        refine pj_X_of (fun r h => pj_R_to (G, 33, [(3, .int z17), (0, .ref 171), (1, .int v1), (2, .int v2)], [.int (v1 - (Int32.ofInt 1)), .ref 184], 0, 0) 33 4 (fun _ => rfl) h) ?_
        obtain ⟨z42, hz42⟩ : ∃ z : Int32, z = v1 - (Int32.ofInt 1) := ⟨_, rfl⟩
        refine pj_X_eqi hz42.symm ?_
        have fz42_0 : z42.toInt = v1.toInt - (Int32.ofInt 1).toInt := by rw [hz42]; exact pj_subI (by have := pj_i32 v1; have := pj_i32 (Int32.ofInt 1); omega) (by have := pj_i32 v1; have := pj_i32 (Int32.ofInt 1); omega)
        refine pj_X_of (fun r h => pj_R_to (G, 34, [(3, .int z17), (0, .ref 171), (1, .int v1), (2, .int v2)], [.ref 171, .int z42, .ref 184], 0, 0) 34 2 (fun _ => rfl) h) ?_
        refine pj_X_of (fun r h => pj_T_gr hI rfl rfl rfl h) ?_
        refine pj_X_of (fun r h => pj_R_to (G, 40, [(3, .int z17), (0, .ref 171), (1, .int v1), (2, .int v2)], [.int (v1 - (Int32.ofInt 1)), .ref 184, .int z42, .ref 184], 0, 0) 40 4 (fun _ => rfl) h) ?_
        obtain ⟨z43, hz43⟩ : ∃ z : Int32, z = v1 - (Int32.ofInt 1) := ⟨_, rfl⟩
        refine pj_X_eqi hz43.symm ?_
        have fz43_0 : z43.toInt = v1.toInt - (Int32.ofInt 1).toInt := by rw [hz43]; exact pj_subI (by have := pj_i32 v1; have := pj_i32 (Int32.ofInt 1); omega) (by have := pj_i32 v1; have := pj_i32 (Int32.ofInt 1); omega)
        refine pj_X_of (fun r h => pj_T_il hI rfl rfl (by omega) (by omega) h) ?_
        show pj_X _ _ G 41 [(3, .int z17), (0, .ref 171), (1, .int v1), (2, .int v2)] [.int (pj_ai G 184 z43.toInt.toNat), .int z42, .ref 184] _
        obtain ⟨z44, hz44⟩ : ∃ z : Int32, z = pj_ai G 184 z43.toInt.toNat := ⟨_, rfl⟩
        refine pj_X_eqi hz44.symm ?_
        have ez44 : (pj_ai G 184 z43.toInt.toNat).toInt = z44.toInt := by rw [hz44]
        refine pj_X_of (fun r h => pj_R_to (G, 42, [(3, .int z17), (0, .ref 171), (1, .int v1), (2, .int v2)], [.int (-z44), .int z42, .ref 184], 0, 0) 42 2 (fun _ => rfl) h) ?_
        obtain ⟨z45, hz45⟩ : ∃ z : Int32, z = -z44 := ⟨_, rfl⟩
        refine pj_X_eqi hz45.symm ?_
        refine pj_X_of (fun r h => pj_T_is hI rfl rfl (by omega) (by omega) h) ?_
        show pj_X _ _ (pj_wa G 184 z42.toInt.toNat z45) 43 [(3, .int z17), (0, .ref 171), (1, .int v1), (2, .int v2)] [] _
        obtain ⟨G46, hG46⟩ : ∃ H, H = pj_wa G 184 z42.toInt.toNat z45 := ⟨_, rfl⟩
        have iG46 : pj_Inv G46 := by rw [hG46]; exact pj_Inv_wa hI rfl (fun q hq => by cases hq) (fun n hn => by cases hn)
        have kG46 : pj_kpt kc_202 G0 G46 := by rw [hG46]; exact pj_kpt_a hK rfl
        rw [← hG46]
        refine pj_X_of (fun r h => pj_R_to (G46, 122, [(2, .int (v2 + Int32.ofInt 1)), (3, .int z17), (0, .ref 171), (1, .int v1)], [], 0, 0) 122 3 (fun _ => rfl) h) ?_
        obtain ⟨z47, hz47⟩ : ∃ z : Int32, z = v2 + Int32.ofInt 1 := ⟨_, rfl⟩
        rw [← hz47]
        have fz47_0 : z47.toInt = v2.toInt + (Int32.ofInt 1).toInt := by rw [hz47]; exact pj_addI (by have := pj_i32 v2; have := pj_i32 (Int32.ofInt 1); omega) (by have := pj_i32 v2; have := pj_i32 (Int32.ofInt 1); omega)
        refine pj_X_of (fun r h => pj_R_to (G46, 4, [(2, .int z47), (3, .int z17), (0, .ref 171), (1, .int v1)], [], 0, 0) 4 2 (fun _ => rfl) h) ?_
        have q48 : (pj_fi G46 171 26).toInt = y1.toInt := by rw [show pj_fi G46 171 26 = y1 from by rw [hG46, pj_fi_wa]; exact hy1.symm]
        exact pj_X_sub [(0, .ref 171), (1, .int v1), (2, .int z47)] (show List.Nodup [0, 1, 2] by decide) ⟨rfl, rfl, rfl, trivial⟩ (ih G46 iG46 kG46 v1 z47 ⟨by omega, by omega⟩ ⟨by omega, by omega⟩ (hN _ _ (by omega) (by omega)) (by omega) (by omega))
theorem ct_202 (G0 : pj_G) (hI : pj_Inv G0) (p0_ : pj_RI G0) : pj_Y 3 202 [.ref 171] G0 (fun v G' => ∃ y : Int32, v = some (.int y) ∧ pj_Inv G' ∧ pj_kpt kc_202 G0 G' ∧ ((1 : Int) ≤ y.toInt ∧ y.toInt ≤ 99)) := by
  have c0_ : ((Int16.ofInt 1000).toInt32).toInt = 1000 := by decide
  have c1_ : ((Int16.ofInt 2000).toInt32).toInt = 2000 := by decide
  have c2_ : ((Int16.ofInt 3000).toInt32).toInt = 3000 := by decide
  have c3_ : ((Int8.ofInt 9).toInt32).toInt = 9 := by decide
  have c4_ : ((Int8.ofInt 99).toInt32).toInt = 99 := by decide
  have c5_ : (Int32.ofInt (-1)).toInt = -1 := by decide
  have c6_ : (Int32.ofInt 0).toInt = 0 := by decide
  have c7_ : (Int32.ofInt 1).toInt = 1 := by decide
  have c8_ : (Int32.ofInt 2).toInt = 2 := by decide
  refine pj_Y_X (M := pj_m202) rfl rfl (Nat.le_of_ble_eq_true rfl) ?_
  have hK : pj_kpt kc_202 G0 G0 := pj_kpt_r _ _
  show pj_X _ _ G0 0 [(0, .ref 171)] [] _
  obtain ⟨y49, hy49⟩ : ∃ z : Int32, z = pj_fi G0 171 26 := ⟨_, rfl⟩
  have ey49 : (pj_fi G0 171 26).toInt = y49.toInt := by rw [hy49]
  have ry49 : (0 : Int) ≤ y49.toInt ∧ y49.toInt ≤ 80 := by rw [hy49]; exact hI.2.1 171 26 (0, 80) rfl
  refine pj_X_of (fun r h => pj_R_to (G0, 4, [(2, .int (Int32.ofInt 0)), (1, .int (Int32.ofInt 0)), (0, .ref 171)], [], 0, 0) 4 5 (fun _ => rfl) h) ?_
  have q50 : (pj_fi G0 171 26).toInt = y49.toInt := by rw [show pj_fi G0 171 26 = y49 from hy49.symm]
  exact pj_X_sub [(0, .ref 171), (1, .int (Int32.ofInt 0)), (2, .int (Int32.ofInt 0))] (show List.Nodup [0, 1, 2] by decide) ⟨rfl, rfl, rfl, trivial⟩ ((lp_ct_202 G0 hI   p0_ 81) G0 hI hK (Int32.ofInt 0) (Int32.ofInt 0) ⟨by omega, by omega⟩ ⟨by omega, by omega⟩ (pj_vq_0 p0_) (by omega) (by omega))
theorem ct_203 (G0 : pj_G) (hI : pj_Inv G0) (c : Int32) (rc : (-2147483648 : Int) ≤ c.toInt ∧ c.toInt ≤ 9) : pj_Y 1 203 [.ref 171, .int c] G0 (fun v G' => ∃ y : Int32, v = some (.int y) ∧ G0 = G' ∧ ((0 : Int) ≤ y.toInt ∧ y.toInt ≤ 99)) := by
  have c0_ : (Int32.ofInt 0).toInt = 0 := by decide
  refine pj_Y_X (M := pj_m203) rfl rfl (Nat.le_of_ble_eq_true rfl) ?_
  have hK : pj_kpt ([], [], []) G0 G0 := pj_kpt_r _ _
  show pj_X _ _ G0 0 [(0, .ref 171), (1, .int c)] [] _
  refine pj_X_of (fun r h => pj_R_to (G0, 1, [(0, .ref 171), (1, .int c)], [.int c], 0, 0) 1 2 (fun _ => rfl) h) ?_
  cases b1 : pj_c1 .ge c 0 with
  | true =>
    have ub1 := pj_u0_geT b1
    refine pj_X_of (fun r h => pj_R_ifT 8 rfl rfl b1 h) ?_
    refine pj_X_of (fun r h => pj_R_to (G0, 9, [(0, .ref 171), (1, .int c)], [.ref 171], 0, 0) 9 2 (fun _ => rfl) h) ?_
    refine pj_X_of (fun r h => pj_T_gr hI rfl rfl rfl h) ?_
    refine pj_X_of (fun r h => pj_R_to (G0, 13, [(0, .ref 171), (1, .int c)], [.int c, .ref 175], 0, 0) 13 2 (fun _ => rfl) h) ?_
    refine pj_X_of (fun r h => pj_T_il hI rfl rfl (by omega) (by omega) h) ?_
    show pj_X _ _ G0 14 [(0, .ref 171), (1, .int c)] [.int (pj_ai G0 175 c.toInt.toNat)] _
    obtain ⟨z2, hz2⟩ : ∃ z : Int32, z = pj_ai G0 175 c.toInt.toNat := ⟨_, rfl⟩
    refine pj_X_eqi hz2.symm ?_
    have ez2 : (pj_ai G0 175 c.toInt.toNat).toInt = z2.toInt := by rw [hz2]
    have fz2_0 : (0 : Int) ≤ z2.toInt ∧ z2.toInt ≤ 99 ∧ (z2.toInt ≤ 0 ∨ 0 ≤ z2.toInt) := by rw [hz2]; exact hI.2.2.1 175 (10, 0, 99, 0, 0) rfl _ (by show _ < 10; omega)
    exact pj_X_rt rfl rfl ⟨_, rfl, rfl, ⟨by omega, by omega⟩⟩
  | false =>
    have ub1 := pj_u0_geF b1
    refine pj_X_of (fun r h => pj_R_ifF rfl b1 h) ?_
    refine pj_X_of (fun r h => pj_R_to (G0, 14, [(0, .ref 171), (1, .int c)], [.int (Int32.ofInt 0)], 0, 0) 14 3 (fun _ => rfl) h) ?_
    exact pj_X_rt rfl rfl ⟨_, rfl, rfl, ⟨by omega, by omega⟩⟩
def kc_204 : pj_KT := ([], [184, 185], [184, 185])
theorem ct_204 (G0 : pj_G) (hI : pj_Inv G0) (b : Int32) (c : Int32) (rb : (0 : Int) ≤ b.toInt ∧ b.toInt ≤ 5) (rc : (-1 : Int) ≤ c.toInt ∧ c.toInt ≤ 9) (p0_ : pj_RI G0) : pj_Y 5 204 [.ref 171, .int b, .int c] G0 (fun v G' => ∃ y : Int32, v = some (.int y) ∧ pj_Inv G' ∧ pj_kpt kc_204 G0 G' ∧ ((1 : Int) ≤ y.toInt ∧ y.toInt ≤ 99)) := by
  have c0_ : ((Int8.ofInt 24).toInt32).toInt = 24 := by decide
  have c1_ : ((Int8.ofInt 30).toInt32).toInt = 30 := by decide
  have c2_ : ((Int8.ofInt 6).toInt32).toInt = 6 := by decide
  have c3_ : (Int32.ofInt 0).toInt = 0 := by decide
  have c4_ : (Int32.ofInt 1).toInt = 1 := by decide
  have c5_ : (Int32.ofInt 2).toInt = 2 := by decide
  have c6_ : (Int32.ofInt 3).toInt = 3 := by decide
  have c7_ : (Int32.ofInt 4).toInt = 4 := by decide
  have c8_ : (Int32.ofInt 5).toInt = 5 := by decide
  refine pj_Y_X (M := pj_m204) rfl rfl (Nat.le_of_ble_eq_true rfl) ?_
  have hK : pj_kpt kc_204 G0 G0 := pj_kpt_r _ _
  show pj_X _ _ G0 0 [(0, .ref 171), (1, .int b), (2, .int c)] [] _
  refine pj_X_of (fun r h => pj_R_to (G0, 2, [(0, .ref 171), (1, .int b), (2, .int c)], [.ref 171, .ref 171], 0, 0) 2 3 (fun _ => rfl) h) ?_
  refine pj_X_of (fun r h => pj_T_gr hI rfl rfl rfl h) ?_
  refine pj_X_of (fun r h => pj_R_to (G0, 8, [(0, .ref 171), (1, .int b), (2, .int c)], [.int ((Int32.ofInt 4) * b), .ref 179, .ref 171], 0, 0) 8 4 (fun _ => rfl) h) ?_
  obtain ⟨z1, hz1⟩ : ∃ z : Int32, z = (Int32.ofInt 4) * b := ⟨_, rfl⟩
  refine pj_X_eqi hz1.symm ?_
  have fz1_0 : z1.toInt = 4 * b.toInt := by rw [hz1]; exact pj_mulL (by decide) (by omega) (by omega)
  refine pj_X_of (fun r h => pj_R_to (G0, 10, [(0, .ref 171), (1, .int b), (2, .int c)], [.int (z1 + (Int32.ofInt 0)), .ref 179, .ref 171], 0, 0) 10 3 (fun _ => rfl) h) ?_
  obtain ⟨z2, hz2⟩ : ∃ z : Int32, z = z1 + (Int32.ofInt 0) := ⟨_, rfl⟩
  refine pj_X_eqi hz2.symm ?_
  have fz2_0 : z2.toInt = z1.toInt + (Int32.ofInt 0).toInt := by rw [hz2]; exact pj_addI (by have := pj_i32 z1; have := pj_i32 (Int32.ofInt 0); omega) (by have := pj_i32 z1; have := pj_i32 (Int32.ofInt 0); omega)
  refine pj_X_of (fun r h => pj_T_il hI rfl rfl (by omega) (by omega) h) ?_
  show pj_X _ _ G0 11 [(0, .ref 171), (1, .int b), (2, .int c)] [.int (pj_ai G0 179 z2.toInt.toNat), .ref 171] _
  obtain ⟨z3, hz3⟩ : ∃ z : Int32, z = pj_ai G0 179 z2.toInt.toNat := ⟨_, rfl⟩
  refine pj_X_eqi hz3.symm ?_
  have ez3 : (pj_ai G0 179 z2.toInt.toNat).toInt = z3.toInt := by rw [hz3]
  have fz3_0 : -1 ≤ z3.toInt ∧ z3.toInt ≤ 9 := by rw [hz3]; exact ((hI.2.2.2 179 32 rfl _ (by show _ < 32; omega)).1 (by omega)).1 (by omega)
  refine pj_X_ca (vs := [.ref 171, .int z3]) rfl (fun _ => rfl) ⟨Nat.le_of_ble_eq_true rfl, Nat.le_of_ble_eq_true rfl, pj_T_rcv hI rfl⟩ ⟨rfl, rfl⟩ (pj_Y_up (by decide) (ct_203 G0 hI z3 ⟨by omega, by omega⟩)) ?_
  rintro _ _ ⟨y4, rfl, rfl, ry4⟩
  show pj_X _ _ G0 14 [(0, .ref 171), (1, .int b), (2, .int c)] [.int y4] _
  refine pj_X_of (fun r h => pj_R_to (G0, 17, [(3, .int y4), (0, .ref 171), (1, .int b), (2, .int c)], [.int c, .ref 171], 0, 0) 17 4 (fun _ => rfl) h) ?_
  refine pj_X_ca (vs := [.ref 171, .int c]) rfl (fun _ => rfl) ⟨Nat.le_of_ble_eq_true rfl, Nat.le_of_ble_eq_true rfl, pj_T_rcv hI rfl⟩ ⟨rfl, rfl⟩ (pj_Y_up (by decide) (ct_203 G0 hI c ⟨by omega, by omega⟩)) ?_
  rintro _ _ ⟨y5, rfl, rfl, ry5⟩
  show pj_X _ _ G0 20 [(3, .int y4), (0, .ref 171), (1, .int b), (2, .int c)] [.int y5] _
  refine pj_X_of (fun r h => pj_R_to (G0, 23, [(4, .int y5), (3, .int y4), (0, .ref 171), (1, .int b), (2, .int c)], [.ref 171], 0, 0) 23 3 (fun _ => rfl) h) ?_
  refine pj_X_of (fun r h => pj_T_gr hI rfl rfl rfl h) ?_
  refine pj_X_of (fun r h => pj_R_to (G0, 31, [(4, .int y5), (3, .int y4), (0, .ref 171), (1, .int b), (2, .int c)], [.int (y4 - y5), .int (Int32.ofInt 0), .ref 185], 0, 0) 31 5 (fun _ => rfl) h) ?_
  obtain ⟨z6, hz6⟩ : ∃ z : Int32, z = y4 - y5 := ⟨_, rfl⟩
  refine pj_X_eqi hz6.symm ?_
  have fz6_0 : z6.toInt = y4.toInt - y5.toInt := by rw [hz6]; exact pj_subI (by have := pj_i32 y4; have := pj_i32 y5; omega) (by have := pj_i32 y4; have := pj_i32 y5; omega)
  refine pj_X_of (fun r h => pj_R_ab (v := (if 0 ≤ z6 then z6 else 0 - z6)) rfl rfl rfl (Nat.le_of_ble_eq_true rfl) h) ?_
  show pj_X _ _ G0 34 [(4, .int y5), (3, .int y4), (0, .ref 171), (1, .int b), (2, .int c)] [.int (if 0 ≤ z6 then z6 else 0 - z6), .int (Int32.ofInt 0), .ref 185] _
  obtain ⟨z7, hz7⟩ : ∃ z : Int32, z = (if 0 ≤ z6 then z6 else 0 - z6) := ⟨_, rfl⟩
  refine pj_X_eqi hz7.symm ?_
  refine pj_X_of (fun r h => pj_T_is hI rfl rfl (by omega) (by omega) h) ?_
  show pj_X _ _ (pj_wa G0 185 (Int32.ofInt 0).toInt.toNat z7) 35 [(4, .int y5), (3, .int y4), (0, .ref 171), (1, .int b), (2, .int c)] [] _
  obtain ⟨G8, hG8⟩ : ∃ H, H = pj_wa G0 185 (Int32.ofInt 0).toInt.toNat z7 := ⟨_, rfl⟩
  have iG8 : pj_Inv G8 := by rw [hG8]; exact pj_Inv_wa hI rfl (fun q hq => by cases hq) (fun n hn => by cases hn)
  have kG8 : pj_kpt kc_204 G0 G8 := by rw [hG8]; exact pj_kpt_a hK rfl
  rw [← hG8]
  refine pj_X_of (fun r h => pj_R_to (G8, 36, [(4, .int y5), (3, .int y4), (0, .ref 171), (1, .int b), (2, .int c)], [.ref 171], 0, 0) 36 2 (fun _ => rfl) h) ?_
  refine pj_X_of (fun r h => pj_T_gr iG8 rfl rfl rfl h) ?_
  refine pj_X_of (fun r h => pj_R_to (G8, 43, [(4, .int y5), (3, .int y4), (0, .ref 171), (1, .int b), (2, .int c)], [.int y4, .int y5, .int (Int32.ofInt 1), .ref 185], 0, 0) 43 4 (fun _ => rfl) h) ?_
  cases b9 : pj_c1 .ge y5 y4 with
  | true =>
    have ub9 := pj_u_geT b9
    refine pj_X_of (fun r h => pj_R_icT 50 rfl rfl b9 h) ?_
    refine pj_X_of (fun r h => pj_R_to (G8, 51, [(4, .int y5), (3, .int y4), (0, .ref 171), (1, .int b), (2, .int c)], [.int (Int32.ofInt 0), .int (Int32.ofInt 1), .ref 185], 0, 0) 51 2 (fun _ => rfl) h) ?_
    refine pj_X_ca (vs := [.int (Int32.ofInt 0)]) rfl (fun _ => rfl) ⟨Nat.le_of_ble_eq_true rfl, Nat.le_of_ble_eq_true rfl, rfl⟩ ⟨rfl, rfl⟩ (pj_Y_up (by decide) (ct_172 G8 iG8 (Int32.ofInt 0) ⟨by omega, by omega⟩)) ?_
    rintro _ _ ⟨y10, rfl, rfl, ry10, ey10⟩
    show pj_X _ _ G8 54 [(4, .int y5), (3, .int y4), (0, .ref 171), (1, .int b), (2, .int c)] [.int y10, .int (Int32.ofInt 1), .ref 185] _
    refine pj_X_of (fun r h => pj_T_is iG8 rfl rfl (by omega) (by omega) h) ?_
    show pj_X _ _ (pj_wa G8 185 (Int32.ofInt 1).toInt.toNat y10) 55 [(4, .int y5), (3, .int y4), (0, .ref 171), (1, .int b), (2, .int c)] [] _
    obtain ⟨G11, hG11⟩ : ∃ H, H = pj_wa G8 185 (Int32.ofInt 1).toInt.toNat y10 := ⟨_, rfl⟩
    have iG11 : pj_Inv G11 := by rw [hG11]; exact pj_Inv_wa iG8 rfl (fun q hq => by cases hq) (fun n hn => by cases hn)
    have kG11 : pj_kpt kc_204 G0 G11 := by rw [hG11]; exact pj_kpt_a kG8 rfl
    rw [← hG11]
    refine pj_X_of (fun r h => pj_R_to (G11, 56, [(4, .int y5), (3, .int y4), (0, .ref 171), (1, .int b), (2, .int c)], [.ref 171], 0, 0) 56 2 (fun _ => rfl) h) ?_
    refine pj_X_of (fun r h => pj_T_gr iG11 rfl rfl rfl h) ?_
    refine pj_X_of (fun r h => pj_R_to (G11, 61, [(4, .int y5), (3, .int y4), (0, .ref 171), (1, .int b), (2, .int c)], [.ref 171, .int (Int32.ofInt 2), .ref 185], 0, 0) 61 3 (fun _ => rfl) h) ?_
    refine pj_X_of (fun r h => pj_T_gr iG11 rfl rfl rfl h) ?_
    refine pj_X_of (fun r h => pj_R_to (G11, 65, [(4, .int y5), (3, .int y4), (0, .ref 171), (1, .int b), (2, .int c)], [.int b, .ref 177, .int (Int32.ofInt 2), .ref 185], 0, 0) 65 2 (fun _ => rfl) h) ?_
    refine pj_X_of (fun r h => pj_T_il iG11 rfl rfl (by omega) (by omega) h) ?_
    show pj_X _ _ G11 66 [(4, .int y5), (3, .int y4), (0, .ref 171), (1, .int b), (2, .int c)] [.int (pj_ai G11 177 b.toInt.toNat), .int (Int32.ofInt 2), .ref 185] _
    obtain ⟨z12, hz12⟩ : ∃ z : Int32, z = pj_ai G11 177 b.toInt.toNat := ⟨_, rfl⟩
    refine pj_X_eqi hz12.symm ?_
    have ez12 : (pj_ai G11 177 b.toInt.toNat).toInt = z12.toInt := by rw [hz12]
    refine pj_X_of (fun r h => pj_T_is iG11 rfl rfl (by omega) (by omega) h) ?_
    show pj_X _ _ (pj_wa G11 185 (Int32.ofInt 2).toInt.toNat z12) 67 [(4, .int y5), (3, .int y4), (0, .ref 171), (1, .int b), (2, .int c)] [] _
    obtain ⟨G13, hG13⟩ : ∃ H, H = pj_wa G11 185 (Int32.ofInt 2).toInt.toNat z12 := ⟨_, rfl⟩
    have iG13 : pj_Inv G13 := by rw [hG13]; exact pj_Inv_wa iG11 rfl (fun q hq => by cases hq) (fun n hn => by cases hn)
    have kG13 : pj_kpt kc_204 G0 G13 := by rw [hG13]; exact pj_kpt_a kG11 rfl
    rw [← hG13]
    refine pj_X_of (fun r h => pj_R_to (G13, 68, [(4, .int y5), (3, .int y4), (0, .ref 171), (1, .int b), (2, .int c)], [.ref 171], 0, 0) 68 2 (fun _ => rfl) h) ?_
    refine pj_X_of (fun r h => pj_T_gr iG13 rfl rfl rfl h) ?_
    refine pj_X_of (fun r h => pj_R_to (G13, 73, [(4, .int y5), (3, .int y4), (0, .ref 171), (1, .int b), (2, .int c)], [.ref 171, .int (Int32.ofInt 3), .ref 185], 0, 0) 73 3 (fun _ => rfl) h) ?_
    refine pj_X_of (fun r h => pj_T_gr iG13 rfl rfl rfl h) ?_
    refine pj_X_of (fun r h => pj_R_to (G13, 79, [(4, .int y5), (3, .int y4), (0, .ref 171), (1, .int b), (2, .int c)], [.int ((Int32.ofInt 4) * b), .ref 179, .int (Int32.ofInt 3), .ref 185], 0, 0) 79 4 (fun _ => rfl) h) ?_
    obtain ⟨z14, hz14⟩ : ∃ z : Int32, z = (Int32.ofInt 4) * b := ⟨_, rfl⟩
    refine pj_X_eqi hz14.symm ?_
    have fz14_0 : z14.toInt = 4 * b.toInt := by rw [hz14]; exact pj_mulL (by decide) (by omega) (by omega)
    refine pj_X_of (fun r h => pj_R_to (G13, 81, [(4, .int y5), (3, .int y4), (0, .ref 171), (1, .int b), (2, .int c)], [.int (z14 + (Int32.ofInt 3)), .ref 179, .int (Int32.ofInt 3), .ref 185], 0, 0) 81 3 (fun _ => rfl) h) ?_
    obtain ⟨z15, hz15⟩ : ∃ z : Int32, z = z14 + (Int32.ofInt 3) := ⟨_, rfl⟩
    refine pj_X_eqi hz15.symm ?_
    have fz15_0 : z15.toInt = z14.toInt + (Int32.ofInt 3).toInt := by rw [hz15]; exact pj_addI (by have := pj_i32 z14; have := pj_i32 (Int32.ofInt 3); omega) (by have := pj_i32 z14; have := pj_i32 (Int32.ofInt 3); omega)
    refine pj_X_of (fun r h => pj_T_il iG13 rfl rfl (by omega) (by omega) h) ?_
    show pj_X _ _ G13 82 [(4, .int y5), (3, .int y4), (0, .ref 171), (1, .int b), (2, .int c)] [.int (pj_ai G13 179 z15.toInt.toNat), .int (Int32.ofInt 3), .ref 185] _
    obtain ⟨z16, hz16⟩ : ∃ z : Int32, z = pj_ai G13 179 z15.toInt.toNat := ⟨_, rfl⟩
    refine pj_X_eqi hz16.symm ?_
    have ez16 : (pj_ai G13 179 z15.toInt.toNat).toInt = z16.toInt := by rw [hz16]
    refine pj_X_of (fun r h => pj_T_is iG13 rfl rfl (by omega) (by omega) h) ?_
    show pj_X _ _ (pj_wa G13 185 (Int32.ofInt 3).toInt.toNat z16) 83 [(4, .int y5), (3, .int y4), (0, .ref 171), (1, .int b), (2, .int c)] [] _
    obtain ⟨G17, hG17⟩ : ∃ H, H = pj_wa G13 185 (Int32.ofInt 3).toInt.toNat z16 := ⟨_, rfl⟩
    have iG17 : pj_Inv G17 := by rw [hG17]; exact pj_Inv_wa iG13 rfl (fun q hq => by cases hq) (fun n hn => by cases hn)
    have kG17 : pj_kpt kc_204 G0 G17 := by rw [hG17]; exact pj_kpt_a kG13 rfl
    rw [← hG17]
    refine pj_X_of (fun r h => pj_R_to (G17, 84, [(4, .int y5), (3, .int y4), (0, .ref 171), (1, .int b), (2, .int c)], [.ref 171], 0, 0) 84 2 (fun _ => rfl) h) ?_
    refine pj_X_of (fun r h => pj_T_gr iG17 rfl rfl rfl h) ?_
    refine pj_X_of (fun r h => pj_R_to (G17, 89, [(4, .int y5), (3, .int y4), (0, .ref 171), (1, .int b), (2, .int c)], [.int c, .int (Int32.ofInt 4), .ref 185], 0, 0) 89 3 (fun _ => rfl) h) ?_
    cases b18 : pj_c1 .ge c 0 with
    | true =>
      have ub18 := pj_u0_geT b18
      refine pj_X_of (fun r h => pj_R_ifT 96 rfl rfl b18 h) ?_
      refine pj_X_of (fun r h => pj_R_to (G17, 97, [(4, .int y5), (3, .int y4), (0, .ref 171), (1, .int b), (2, .int c)], [.ref 171, .int (Int32.ofInt 4), .ref 185], 0, 0) 97 2 (fun _ => rfl) h) ?_
      refine pj_X_of (fun r h => pj_T_gr iG17 rfl rfl rfl h) ?_
      refine pj_X_of (fun r h => pj_R_to (G17, 101, [(4, .int y5), (3, .int y4), (0, .ref 171), (1, .int b), (2, .int c)], [.int c, .ref 176, .int (Int32.ofInt 4), .ref 185], 0, 0) 101 2 (fun _ => rfl) h) ?_
      refine pj_X_of (fun r h => pj_T_il iG17 rfl rfl (by omega) (by omega) h) ?_
      show pj_X _ _ G17 102 [(4, .int y5), (3, .int y4), (0, .ref 171), (1, .int b), (2, .int c)] [.int (pj_ai G17 176 c.toInt.toNat), .int (Int32.ofInt 4), .ref 185] _
      obtain ⟨z19, hz19⟩ : ∃ z : Int32, z = pj_ai G17 176 c.toInt.toNat := ⟨_, rfl⟩
      refine pj_X_eqi hz19.symm ?_
      have ez19 : (pj_ai G17 176 c.toInt.toNat).toInt = z19.toInt := by rw [hz19]
      refine pj_X_of (fun r h => pj_T_is iG17 rfl rfl (by omega) (by omega) h) ?_
      show pj_X _ _ (pj_wa G17 185 (Int32.ofInt 4).toInt.toNat z19) 103 [(4, .int y5), (3, .int y4), (0, .ref 171), (1, .int b), (2, .int c)] [] _
      obtain ⟨G20, hG20⟩ : ∃ H, H = pj_wa G17 185 (Int32.ofInt 4).toInt.toNat z19 := ⟨_, rfl⟩
      have iG20 : pj_Inv G20 := by rw [hG20]; exact pj_Inv_wa iG17 rfl (fun q hq => by cases hq) (fun n hn => by cases hn)
      have kG20 : pj_kpt kc_204 G0 G20 := by rw [hG20]; exact pj_kpt_a kG17 rfl
      rw [← hG20]
      refine pj_X_of (fun r h => pj_R_to (G20, 104, [(4, .int y5), (3, .int y4), (0, .ref 171), (1, .int b), (2, .int c)], [.ref 171], 0, 0) 104 2 (fun _ => rfl) h) ?_
      refine pj_X_of (fun r h => pj_T_gr iG20 rfl rfl rfl h) ?_
      refine pj_X_of (fun r h => pj_R_to (G20, 109, [(4, .int y5), (3, .int y4), (0, .ref 171), (1, .int b), (2, .int c)], [.int b, .int (Int32.ofInt 5), .ref 185], 0, 0) 109 3 (fun _ => rfl) h) ?_
      refine pj_X_of (fun r h => pj_T_is iG20 rfl rfl (by omega) (by omega) h) ?_
      show pj_X _ _ (pj_wa G20 185 (Int32.ofInt 5).toInt.toNat b) 110 [(4, .int y5), (3, .int y4), (0, .ref 171), (1, .int b), (2, .int c)] [] _
      obtain ⟨G21, hG21⟩ : ∃ H, H = pj_wa G20 185 (Int32.ofInt 5).toInt.toNat b := ⟨_, rfl⟩
      have iG21 : pj_Inv G21 := by rw [hG21]; exact pj_Inv_wa iG20 rfl (fun q hq => by cases hq) (fun n hn => by cases hn)
      have kG21 : pj_kpt kc_204 G0 G21 := by rw [hG21]; exact pj_kpt_a kG20 rfl
      rw [← hG21]
      refine pj_X_of (fun r h => pj_R_to (G21, 111, [(4, .int y5), (3, .int y4), (0, .ref 171), (1, .int b), (2, .int c)], [.ref 171], 0, 0) 111 2 (fun _ => rfl) h) ?_
      refine pj_X_of (fun r h => pj_T_gr iG21 rfl rfl rfl h) ?_
      refine pj_X_of (fun r h => pj_R_to (G21, 117, [(4, .int y5), (3, .int y4), (0, .ref 171), (1, .int b), (2, .int c)], [.ref 171, .int ((Int8.ofInt 6).toInt32), .ref 185], 0, 0) 117 3 (fun _ => rfl) h) ?_
      refine pj_X_of (fun r h => pj_T_gr iG21 rfl rfl rfl h) ?_
      refine pj_X_of (fun r h => pj_R_to (G21, 122, [(4, .int y5), (3, .int y4), (0, .ref 171), (1, .int b), (2, .int c)], [.int ((Int8.ofInt 30).toInt32), .ref 179, .int ((Int8.ofInt 6).toInt32), .ref 185], 0, 0) 122 2 (fun _ => rfl) h) ?_
      refine pj_X_of (fun r h => pj_T_il iG21 rfl rfl (by omega) (by omega) h) ?_
      show pj_X _ _ G21 123 [(4, .int y5), (3, .int y4), (0, .ref 171), (1, .int b), (2, .int c)] [.int (pj_ai G21 179 ((Int8.ofInt 30).toInt32).toInt.toNat), .int ((Int8.ofInt 6).toInt32), .ref 185] _
      obtain ⟨z22, hz22⟩ : ∃ z : Int32, z = pj_ai G21 179 ((Int8.ofInt 30).toInt32).toInt.toNat := ⟨_, rfl⟩
      refine pj_X_eqi hz22.symm ?_
      have ez22 : (pj_ai G21 179 ((Int8.ofInt 30).toInt32).toInt.toNat).toInt = z22.toInt := by rw [hz22]
      refine pj_X_of (fun r h => pj_R_to (G21, 125, [(4, .int y5), (3, .int y4), (0, .ref 171), (1, .int b), (2, .int c)], [.int ((Int8.ofInt 24).toInt32), .int z22, .int ((Int8.ofInt 6).toInt32), .ref 185], 0, 0) 125 2 (fun _ => rfl) h) ?_
      refine pj_X_of (fun r h => pj_R_rm rfl (pj_nz (by omega)) h) ?_
      show pj_X _ _ G21 126 [(4, .int y5), (3, .int y4), (0, .ref 171), (1, .int b), (2, .int c)] [.int (z22 - z22 / ((Int8.ofInt 24).toInt32) * ((Int8.ofInt 24).toInt32)), .int ((Int8.ofInt 6).toInt32), .ref 185] _
      obtain ⟨z23, hz23⟩ : ∃ z : Int32, z = z22 - z22 / ((Int8.ofInt 24).toInt32) * ((Int8.ofInt 24).toInt32) := ⟨_, rfl⟩
      refine pj_X_eqi hz23.symm ?_
      refine pj_X_of (fun r h => pj_T_is iG21 rfl rfl (by omega) (by omega) h) ?_
      show pj_X _ _ (pj_wa G21 185 ((Int8.ofInt 6).toInt32).toInt.toNat z23) 127 [(4, .int y5), (3, .int y4), (0, .ref 171), (1, .int b), (2, .int c)] [] _
      obtain ⟨G24, hG24⟩ : ∃ H, H = pj_wa G21 185 ((Int8.ofInt 6).toInt32).toInt.toNat z23 := ⟨_, rfl⟩
      have iG24 : pj_Inv G24 := by rw [hG24]; exact pj_Inv_wa iG21 rfl (fun q hq => by cases hq) (fun n hn => by cases hn)
      have kG24 : pj_kpt kc_204 G0 G24 := by rw [hG24]; exact pj_kpt_a kG21 rfl
      rw [← hG24]
      refine pj_X_of (fun r h => pj_R_to (G24, 128, [(4, .int y5), (3, .int y4), (0, .ref 171), (1, .int b), (2, .int c)], [.ref 171], 0, 0) 128 2 (fun _ => rfl) h) ?_
      refine pj_X_ca (vs := [.ref 171]) rfl (fun _ => rfl) ⟨Nat.le_of_ble_eq_true rfl, Nat.le_of_ble_eq_true rfl, pj_T_rcv iG24 rfl⟩ ⟨rfl, rfl⟩ (pj_Y_up (by decide) (ct_202 G24 iG24 (pj_RI_k p0_ kG24 rfl))) ?_
      rintro _ G26 ⟨y25, rfl, iG26, jG26, ry25⟩
      have kG26 : pj_kpt kc_204 G0 G26 := pj_kpt_t kG24 (pj_kpt_s jG26 rfl)
      show pj_X _ _ G26 131 [(4, .int y5), (3, .int y4), (0, .ref 171), (1, .int b), (2, .int c)] [.int y25] _
      exact pj_X_rt rfl rfl ⟨_, rfl, iG26, kG26, ⟨by omega, by omega⟩⟩
    | false =>
      have ub18 := pj_u0_geF b18
      refine pj_X_of (fun r h => pj_R_ifF rfl b18 h) ?_
      refine pj_X_of (fun r h => pj_R_to (G17, 102, [(4, .int y5), (3, .int y4), (0, .ref 171), (1, .int b), (2, .int c)], [.int (Int32.ofInt 0), .int (Int32.ofInt 4), .ref 185], 0, 0) 102 3 (fun _ => rfl) h) ?_
      refine pj_X_of (fun r h => pj_T_is iG17 rfl rfl (by omega) (by omega) h) ?_
      show pj_X _ _ (pj_wa G17 185 (Int32.ofInt 4).toInt.toNat (Int32.ofInt 0)) 103 [(4, .int y5), (3, .int y4), (0, .ref 171), (1, .int b), (2, .int c)] [] _
      obtain ⟨G27, hG27⟩ : ∃ H, H = pj_wa G17 185 (Int32.ofInt 4).toInt.toNat (Int32.ofInt 0) := ⟨_, rfl⟩
      have iG27 : pj_Inv G27 := by rw [hG27]; exact pj_Inv_wa iG17 rfl (fun q hq => by cases hq) (fun n hn => by cases hn)
      have kG27 : pj_kpt kc_204 G0 G27 := by rw [hG27]; exact pj_kpt_a kG17 rfl
      rw [← hG27]
      refine pj_X_of (fun r h => pj_R_to (G27, 104, [(4, .int y5), (3, .int y4), (0, .ref 171), (1, .int b), (2, .int c)], [.ref 171], 0, 0) 104 2 (fun _ => rfl) h) ?_
      refine pj_X_of (fun r h => pj_T_gr iG27 rfl rfl rfl h) ?_
      refine pj_X_of (fun r h => pj_R_to (G27, 109, [(4, .int y5), (3, .int y4), (0, .ref 171), (1, .int b), (2, .int c)], [.int b, .int (Int32.ofInt 5), .ref 185], 0, 0) 109 3 (fun _ => rfl) h) ?_
      refine pj_X_of (fun r h => pj_T_is iG27 rfl rfl (by omega) (by omega) h) ?_
      show pj_X _ _ (pj_wa G27 185 (Int32.ofInt 5).toInt.toNat b) 110 [(4, .int y5), (3, .int y4), (0, .ref 171), (1, .int b), (2, .int c)] [] _
      obtain ⟨G28, hG28⟩ : ∃ H, H = pj_wa G27 185 (Int32.ofInt 5).toInt.toNat b := ⟨_, rfl⟩
      have iG28 : pj_Inv G28 := by rw [hG28]; exact pj_Inv_wa iG27 rfl (fun q hq => by cases hq) (fun n hn => by cases hn)
      have kG28 : pj_kpt kc_204 G0 G28 := by rw [hG28]; exact pj_kpt_a kG27 rfl
      rw [← hG28]
      refine pj_X_of (fun r h => pj_R_to (G28, 111, [(4, .int y5), (3, .int y4), (0, .ref 171), (1, .int b), (2, .int c)], [.ref 171], 0, 0) 111 2 (fun _ => rfl) h) ?_
      refine pj_X_of (fun r h => pj_T_gr iG28 rfl rfl rfl h) ?_
      refine pj_X_of (fun r h => pj_R_to (G28, 117, [(4, .int y5), (3, .int y4), (0, .ref 171), (1, .int b), (2, .int c)], [.ref 171, .int ((Int8.ofInt 6).toInt32), .ref 185], 0, 0) 117 3 (fun _ => rfl) h) ?_
      refine pj_X_of (fun r h => pj_T_gr iG28 rfl rfl rfl h) ?_
      refine pj_X_of (fun r h => pj_R_to (G28, 122, [(4, .int y5), (3, .int y4), (0, .ref 171), (1, .int b), (2, .int c)], [.int ((Int8.ofInt 30).toInt32), .ref 179, .int ((Int8.ofInt 6).toInt32), .ref 185], 0, 0) 122 2 (fun _ => rfl) h) ?_
      refine pj_X_of (fun r h => pj_T_il iG28 rfl rfl (by omega) (by omega) h) ?_
      show pj_X _ _ G28 123 [(4, .int y5), (3, .int y4), (0, .ref 171), (1, .int b), (2, .int c)] [.int (pj_ai G28 179 ((Int8.ofInt 30).toInt32).toInt.toNat), .int ((Int8.ofInt 6).toInt32), .ref 185] _
      obtain ⟨z29, hz29⟩ : ∃ z : Int32, z = pj_ai G28 179 ((Int8.ofInt 30).toInt32).toInt.toNat := ⟨_, rfl⟩
      refine pj_X_eqi hz29.symm ?_
      have ez29 : (pj_ai G28 179 ((Int8.ofInt 30).toInt32).toInt.toNat).toInt = z29.toInt := by rw [hz29]
      refine pj_X_of (fun r h => pj_R_to (G28, 125, [(4, .int y5), (3, .int y4), (0, .ref 171), (1, .int b), (2, .int c)], [.int ((Int8.ofInt 24).toInt32), .int z29, .int ((Int8.ofInt 6).toInt32), .ref 185], 0, 0) 125 2 (fun _ => rfl) h) ?_
      refine pj_X_of (fun r h => pj_R_rm rfl (pj_nz (by omega)) h) ?_
      show pj_X _ _ G28 126 [(4, .int y5), (3, .int y4), (0, .ref 171), (1, .int b), (2, .int c)] [.int (z29 - z29 / ((Int8.ofInt 24).toInt32) * ((Int8.ofInt 24).toInt32)), .int ((Int8.ofInt 6).toInt32), .ref 185] _
      obtain ⟨z30, hz30⟩ : ∃ z : Int32, z = z29 - z29 / ((Int8.ofInt 24).toInt32) * ((Int8.ofInt 24).toInt32) := ⟨_, rfl⟩
      refine pj_X_eqi hz30.symm ?_
      refine pj_X_of (fun r h => pj_T_is iG28 rfl rfl (by omega) (by omega) h) ?_
      show pj_X _ _ (pj_wa G28 185 ((Int8.ofInt 6).toInt32).toInt.toNat z30) 127 [(4, .int y5), (3, .int y4), (0, .ref 171), (1, .int b), (2, .int c)] [] _
      obtain ⟨G31, hG31⟩ : ∃ H, H = pj_wa G28 185 ((Int8.ofInt 6).toInt32).toInt.toNat z30 := ⟨_, rfl⟩
      have iG31 : pj_Inv G31 := by rw [hG31]; exact pj_Inv_wa iG28 rfl (fun q hq => by cases hq) (fun n hn => by cases hn)
      have kG31 : pj_kpt kc_204 G0 G31 := by rw [hG31]; exact pj_kpt_a kG28 rfl
      rw [← hG31]
      refine pj_X_of (fun r h => pj_R_to (G31, 128, [(4, .int y5), (3, .int y4), (0, .ref 171), (1, .int b), (2, .int c)], [.ref 171], 0, 0) 128 2 (fun _ => rfl) h) ?_
      refine pj_X_ca (vs := [.ref 171]) rfl (fun _ => rfl) ⟨Nat.le_of_ble_eq_true rfl, Nat.le_of_ble_eq_true rfl, pj_T_rcv iG31 rfl⟩ ⟨rfl, rfl⟩ (pj_Y_up (by decide) (ct_202 G31 iG31 (pj_RI_k p0_ kG31 rfl))) ?_
      rintro _ G33 ⟨y32, rfl, iG33, jG33, ry32⟩
      have kG33 : pj_kpt kc_204 G0 G33 := pj_kpt_t kG31 (pj_kpt_s jG33 rfl)
      show pj_X _ _ G33 131 [(4, .int y5), (3, .int y4), (0, .ref 171), (1, .int b), (2, .int c)] [.int y32] _
      exact pj_X_rt rfl rfl ⟨_, rfl, iG33, kG33, ⟨by omega, by omega⟩⟩
  | false =>
    have ub9 := pj_u_geF b9
    refine pj_X_of (fun r h => pj_R_icF rfl b9 h) ?_
    refine pj_X_of (fun r h => pj_R_to (G8, 51, [(4, .int y5), (3, .int y4), (0, .ref 171), (1, .int b), (2, .int c)], [.int (Int32.ofInt 1), .int (Int32.ofInt 1), .ref 185], 0, 0) 51 3 (fun _ => rfl) h) ?_
    refine pj_X_ca (vs := [.int (Int32.ofInt 1)]) rfl (fun _ => rfl) ⟨Nat.le_of_ble_eq_true rfl, Nat.le_of_ble_eq_true rfl, rfl⟩ ⟨rfl, rfl⟩ (pj_Y_up (by decide) (ct_172 G8 iG8 (Int32.ofInt 1) ⟨by omega, by omega⟩)) ?_
    rintro _ _ ⟨y34, rfl, rfl, ry34, ey34⟩
    show pj_X _ _ G8 54 [(4, .int y5), (3, .int y4), (0, .ref 171), (1, .int b), (2, .int c)] [.int y34, .int (Int32.ofInt 1), .ref 185] _
    refine pj_X_of (fun r h => pj_T_is iG8 rfl rfl (by omega) (by omega) h) ?_
    show pj_X _ _ (pj_wa G8 185 (Int32.ofInt 1).toInt.toNat y34) 55 [(4, .int y5), (3, .int y4), (0, .ref 171), (1, .int b), (2, .int c)] [] _
    obtain ⟨G35, hG35⟩ : ∃ H, H = pj_wa G8 185 (Int32.ofInt 1).toInt.toNat y34 := ⟨_, rfl⟩
    have iG35 : pj_Inv G35 := by rw [hG35]; exact pj_Inv_wa iG8 rfl (fun q hq => by cases hq) (fun n hn => by cases hn)
    have kG35 : pj_kpt kc_204 G0 G35 := by rw [hG35]; exact pj_kpt_a kG8 rfl
    rw [← hG35]
    refine pj_X_of (fun r h => pj_R_to (G35, 56, [(4, .int y5), (3, .int y4), (0, .ref 171), (1, .int b), (2, .int c)], [.ref 171], 0, 0) 56 2 (fun _ => rfl) h) ?_
    refine pj_X_of (fun r h => pj_T_gr iG35 rfl rfl rfl h) ?_
    refine pj_X_of (fun r h => pj_R_to (G35, 61, [(4, .int y5), (3, .int y4), (0, .ref 171), (1, .int b), (2, .int c)], [.ref 171, .int (Int32.ofInt 2), .ref 185], 0, 0) 61 3 (fun _ => rfl) h) ?_
    refine pj_X_of (fun r h => pj_T_gr iG35 rfl rfl rfl h) ?_
    refine pj_X_of (fun r h => pj_R_to (G35, 65, [(4, .int y5), (3, .int y4), (0, .ref 171), (1, .int b), (2, .int c)], [.int b, .ref 177, .int (Int32.ofInt 2), .ref 185], 0, 0) 65 2 (fun _ => rfl) h) ?_
    refine pj_X_of (fun r h => pj_T_il iG35 rfl rfl (by omega) (by omega) h) ?_
    show pj_X _ _ G35 66 [(4, .int y5), (3, .int y4), (0, .ref 171), (1, .int b), (2, .int c)] [.int (pj_ai G35 177 b.toInt.toNat), .int (Int32.ofInt 2), .ref 185] _
    obtain ⟨z36, hz36⟩ : ∃ z : Int32, z = pj_ai G35 177 b.toInt.toNat := ⟨_, rfl⟩
    refine pj_X_eqi hz36.symm ?_
    have ez36 : (pj_ai G35 177 b.toInt.toNat).toInt = z36.toInt := by rw [hz36]
    refine pj_X_of (fun r h => pj_T_is iG35 rfl rfl (by omega) (by omega) h) ?_
    show pj_X _ _ (pj_wa G35 185 (Int32.ofInt 2).toInt.toNat z36) 67 [(4, .int y5), (3, .int y4), (0, .ref 171), (1, .int b), (2, .int c)] [] _
    obtain ⟨G37, hG37⟩ : ∃ H, H = pj_wa G35 185 (Int32.ofInt 2).toInt.toNat z36 := ⟨_, rfl⟩
    have iG37 : pj_Inv G37 := by rw [hG37]; exact pj_Inv_wa iG35 rfl (fun q hq => by cases hq) (fun n hn => by cases hn)
    have kG37 : pj_kpt kc_204 G0 G37 := by rw [hG37]; exact pj_kpt_a kG35 rfl
    rw [← hG37]
    refine pj_X_of (fun r h => pj_R_to (G37, 68, [(4, .int y5), (3, .int y4), (0, .ref 171), (1, .int b), (2, .int c)], [.ref 171], 0, 0) 68 2 (fun _ => rfl) h) ?_
    refine pj_X_of (fun r h => pj_T_gr iG37 rfl rfl rfl h) ?_
    refine pj_X_of (fun r h => pj_R_to (G37, 73, [(4, .int y5), (3, .int y4), (0, .ref 171), (1, .int b), (2, .int c)], [.ref 171, .int (Int32.ofInt 3), .ref 185], 0, 0) 73 3 (fun _ => rfl) h) ?_
    refine pj_X_of (fun r h => pj_T_gr iG37 rfl rfl rfl h) ?_
    refine pj_X_of (fun r h => pj_R_to (G37, 79, [(4, .int y5), (3, .int y4), (0, .ref 171), (1, .int b), (2, .int c)], [.int ((Int32.ofInt 4) * b), .ref 179, .int (Int32.ofInt 3), .ref 185], 0, 0) 79 4 (fun _ => rfl) h) ?_
    obtain ⟨z38, hz38⟩ : ∃ z : Int32, z = (Int32.ofInt 4) * b := ⟨_, rfl⟩
    refine pj_X_eqi hz38.symm ?_
    have fz38_0 : z38.toInt = 4 * b.toInt := by rw [hz38]; exact pj_mulL (by decide) (by omega) (by omega)
    refine pj_X_of (fun r h => pj_R_to (G37, 81, [(4, .int y5), (3, .int y4), (0, .ref 171), (1, .int b), (2, .int c)], [.int (z38 + (Int32.ofInt 3)), .ref 179, .int (Int32.ofInt 3), .ref 185], 0, 0) 81 3 (fun _ => rfl) h) ?_
    obtain ⟨z39, hz39⟩ : ∃ z : Int32, z = z38 + (Int32.ofInt 3) := ⟨_, rfl⟩
    refine pj_X_eqi hz39.symm ?_
    have fz39_0 : z39.toInt = z38.toInt + (Int32.ofInt 3).toInt := by rw [hz39]; exact pj_addI (by have := pj_i32 z38; have := pj_i32 (Int32.ofInt 3); omega) (by have := pj_i32 z38; have := pj_i32 (Int32.ofInt 3); omega)
    refine pj_X_of (fun r h => pj_T_il iG37 rfl rfl (by omega) (by omega) h) ?_
    show pj_X _ _ G37 82 [(4, .int y5), (3, .int y4), (0, .ref 171), (1, .int b), (2, .int c)] [.int (pj_ai G37 179 z39.toInt.toNat), .int (Int32.ofInt 3), .ref 185] _
    obtain ⟨z40, hz40⟩ : ∃ z : Int32, z = pj_ai G37 179 z39.toInt.toNat := ⟨_, rfl⟩
    refine pj_X_eqi hz40.symm ?_
    have ez40 : (pj_ai G37 179 z39.toInt.toNat).toInt = z40.toInt := by rw [hz40]
    refine pj_X_of (fun r h => pj_T_is iG37 rfl rfl (by omega) (by omega) h) ?_
    show pj_X _ _ (pj_wa G37 185 (Int32.ofInt 3).toInt.toNat z40) 83 [(4, .int y5), (3, .int y4), (0, .ref 171), (1, .int b), (2, .int c)] [] _
    obtain ⟨G41, hG41⟩ : ∃ H, H = pj_wa G37 185 (Int32.ofInt 3).toInt.toNat z40 := ⟨_, rfl⟩
    have iG41 : pj_Inv G41 := by rw [hG41]; exact pj_Inv_wa iG37 rfl (fun q hq => by cases hq) (fun n hn => by cases hn)
    have kG41 : pj_kpt kc_204 G0 G41 := by rw [hG41]; exact pj_kpt_a kG37 rfl
    rw [← hG41]
    refine pj_X_of (fun r h => pj_R_to (G41, 84, [(4, .int y5), (3, .int y4), (0, .ref 171), (1, .int b), (2, .int c)], [.ref 171], 0, 0) 84 2 (fun _ => rfl) h) ?_
    refine pj_X_of (fun r h => pj_T_gr iG41 rfl rfl rfl h) ?_
    refine pj_X_of (fun r h => pj_R_to (G41, 89, [(4, .int y5), (3, .int y4), (0, .ref 171), (1, .int b), (2, .int c)], [.int c, .int (Int32.ofInt 4), .ref 185], 0, 0) 89 3 (fun _ => rfl) h) ?_
    cases b42 : pj_c1 .ge c 0 with
    | true =>
      have ub42 := pj_u0_geT b42
      refine pj_X_of (fun r h => pj_R_ifT 96 rfl rfl b42 h) ?_
      refine pj_X_of (fun r h => pj_R_to (G41, 97, [(4, .int y5), (3, .int y4), (0, .ref 171), (1, .int b), (2, .int c)], [.ref 171, .int (Int32.ofInt 4), .ref 185], 0, 0) 97 2 (fun _ => rfl) h) ?_
      refine pj_X_of (fun r h => pj_T_gr iG41 rfl rfl rfl h) ?_
      refine pj_X_of (fun r h => pj_R_to (G41, 101, [(4, .int y5), (3, .int y4), (0, .ref 171), (1, .int b), (2, .int c)], [.int c, .ref 176, .int (Int32.ofInt 4), .ref 185], 0, 0) 101 2 (fun _ => rfl) h) ?_
      refine pj_X_of (fun r h => pj_T_il iG41 rfl rfl (by omega) (by omega) h) ?_
      show pj_X _ _ G41 102 [(4, .int y5), (3, .int y4), (0, .ref 171), (1, .int b), (2, .int c)] [.int (pj_ai G41 176 c.toInt.toNat), .int (Int32.ofInt 4), .ref 185] _
      obtain ⟨z43, hz43⟩ : ∃ z : Int32, z = pj_ai G41 176 c.toInt.toNat := ⟨_, rfl⟩
      refine pj_X_eqi hz43.symm ?_
      have ez43 : (pj_ai G41 176 c.toInt.toNat).toInt = z43.toInt := by rw [hz43]
      refine pj_X_of (fun r h => pj_T_is iG41 rfl rfl (by omega) (by omega) h) ?_
      show pj_X _ _ (pj_wa G41 185 (Int32.ofInt 4).toInt.toNat z43) 103 [(4, .int y5), (3, .int y4), (0, .ref 171), (1, .int b), (2, .int c)] [] _
      obtain ⟨G44, hG44⟩ : ∃ H, H = pj_wa G41 185 (Int32.ofInt 4).toInt.toNat z43 := ⟨_, rfl⟩
      have iG44 : pj_Inv G44 := by rw [hG44]; exact pj_Inv_wa iG41 rfl (fun q hq => by cases hq) (fun n hn => by cases hn)
      have kG44 : pj_kpt kc_204 G0 G44 := by rw [hG44]; exact pj_kpt_a kG41 rfl
      rw [← hG44]
      refine pj_X_of (fun r h => pj_R_to (G44, 104, [(4, .int y5), (3, .int y4), (0, .ref 171), (1, .int b), (2, .int c)], [.ref 171], 0, 0) 104 2 (fun _ => rfl) h) ?_
      refine pj_X_of (fun r h => pj_T_gr iG44 rfl rfl rfl h) ?_
      refine pj_X_of (fun r h => pj_R_to (G44, 109, [(4, .int y5), (3, .int y4), (0, .ref 171), (1, .int b), (2, .int c)], [.int b, .int (Int32.ofInt 5), .ref 185], 0, 0) 109 3 (fun _ => rfl) h) ?_
      refine pj_X_of (fun r h => pj_T_is iG44 rfl rfl (by omega) (by omega) h) ?_
      show pj_X _ _ (pj_wa G44 185 (Int32.ofInt 5).toInt.toNat b) 110 [(4, .int y5), (3, .int y4), (0, .ref 171), (1, .int b), (2, .int c)] [] _
      obtain ⟨G45, hG45⟩ : ∃ H, H = pj_wa G44 185 (Int32.ofInt 5).toInt.toNat b := ⟨_, rfl⟩
      have iG45 : pj_Inv G45 := by rw [hG45]; exact pj_Inv_wa iG44 rfl (fun q hq => by cases hq) (fun n hn => by cases hn)
      have kG45 : pj_kpt kc_204 G0 G45 := by rw [hG45]; exact pj_kpt_a kG44 rfl
      rw [← hG45]
      refine pj_X_of (fun r h => pj_R_to (G45, 111, [(4, .int y5), (3, .int y4), (0, .ref 171), (1, .int b), (2, .int c)], [.ref 171], 0, 0) 111 2 (fun _ => rfl) h) ?_
      refine pj_X_of (fun r h => pj_T_gr iG45 rfl rfl rfl h) ?_
      refine pj_X_of (fun r h => pj_R_to (G45, 117, [(4, .int y5), (3, .int y4), (0, .ref 171), (1, .int b), (2, .int c)], [.ref 171, .int ((Int8.ofInt 6).toInt32), .ref 185], 0, 0) 117 3 (fun _ => rfl) h) ?_
      refine pj_X_of (fun r h => pj_T_gr iG45 rfl rfl rfl h) ?_
      refine pj_X_of (fun r h => pj_R_to (G45, 122, [(4, .int y5), (3, .int y4), (0, .ref 171), (1, .int b), (2, .int c)], [.int ((Int8.ofInt 30).toInt32), .ref 179, .int ((Int8.ofInt 6).toInt32), .ref 185], 0, 0) 122 2 (fun _ => rfl) h) ?_
      refine pj_X_of (fun r h => pj_T_il iG45 rfl rfl (by omega) (by omega) h) ?_
      show pj_X _ _ G45 123 [(4, .int y5), (3, .int y4), (0, .ref 171), (1, .int b), (2, .int c)] [.int (pj_ai G45 179 ((Int8.ofInt 30).toInt32).toInt.toNat), .int ((Int8.ofInt 6).toInt32), .ref 185] _
      obtain ⟨z46, hz46⟩ : ∃ z : Int32, z = pj_ai G45 179 ((Int8.ofInt 30).toInt32).toInt.toNat := ⟨_, rfl⟩
      refine pj_X_eqi hz46.symm ?_
      have ez46 : (pj_ai G45 179 ((Int8.ofInt 30).toInt32).toInt.toNat).toInt = z46.toInt := by rw [hz46]
      refine pj_X_of (fun r h => pj_R_to (G45, 125, [(4, .int y5), (3, .int y4), (0, .ref 171), (1, .int b), (2, .int c)], [.int ((Int8.ofInt 24).toInt32), .int z46, .int ((Int8.ofInt 6).toInt32), .ref 185], 0, 0) 125 2 (fun _ => rfl) h) ?_
      refine pj_X_of (fun r h => pj_R_rm rfl (pj_nz (by omega)) h) ?_
      show pj_X _ _ G45 126 [(4, .int y5), (3, .int y4), (0, .ref 171), (1, .int b), (2, .int c)] [.int (z46 - z46 / ((Int8.ofInt 24).toInt32) * ((Int8.ofInt 24).toInt32)), .int ((Int8.ofInt 6).toInt32), .ref 185] _
      obtain ⟨z47, hz47⟩ : ∃ z : Int32, z = z46 - z46 / ((Int8.ofInt 24).toInt32) * ((Int8.ofInt 24).toInt32) := ⟨_, rfl⟩
      refine pj_X_eqi hz47.symm ?_
      refine pj_X_of (fun r h => pj_T_is iG45 rfl rfl (by omega) (by omega) h) ?_
      show pj_X _ _ (pj_wa G45 185 ((Int8.ofInt 6).toInt32).toInt.toNat z47) 127 [(4, .int y5), (3, .int y4), (0, .ref 171), (1, .int b), (2, .int c)] [] _
      obtain ⟨G48, hG48⟩ : ∃ H, H = pj_wa G45 185 ((Int8.ofInt 6).toInt32).toInt.toNat z47 := ⟨_, rfl⟩
      have iG48 : pj_Inv G48 := by rw [hG48]; exact pj_Inv_wa iG45 rfl (fun q hq => by cases hq) (fun n hn => by cases hn)
      have kG48 : pj_kpt kc_204 G0 G48 := by rw [hG48]; exact pj_kpt_a kG45 rfl
      rw [← hG48]
      refine pj_X_of (fun r h => pj_R_to (G48, 128, [(4, .int y5), (3, .int y4), (0, .ref 171), (1, .int b), (2, .int c)], [.ref 171], 0, 0) 128 2 (fun _ => rfl) h) ?_
      refine pj_X_ca (vs := [.ref 171]) rfl (fun _ => rfl) ⟨Nat.le_of_ble_eq_true rfl, Nat.le_of_ble_eq_true rfl, pj_T_rcv iG48 rfl⟩ ⟨rfl, rfl⟩ (pj_Y_up (by decide) (ct_202 G48 iG48 (pj_RI_k p0_ kG48 rfl))) ?_
      rintro _ G50 ⟨y49, rfl, iG50, jG50, ry49⟩
      have kG50 : pj_kpt kc_204 G0 G50 := pj_kpt_t kG48 (pj_kpt_s jG50 rfl)
      show pj_X _ _ G50 131 [(4, .int y5), (3, .int y4), (0, .ref 171), (1, .int b), (2, .int c)] [.int y49] _
      exact pj_X_rt rfl rfl ⟨_, rfl, iG50, kG50, ⟨by omega, by omega⟩⟩
    | false =>
      have ub42 := pj_u0_geF b42
      refine pj_X_of (fun r h => pj_R_ifF rfl b42 h) ?_
      refine pj_X_of (fun r h => pj_R_to (G41, 102, [(4, .int y5), (3, .int y4), (0, .ref 171), (1, .int b), (2, .int c)], [.int (Int32.ofInt 0), .int (Int32.ofInt 4), .ref 185], 0, 0) 102 3 (fun _ => rfl) h) ?_
      refine pj_X_of (fun r h => pj_T_is iG41 rfl rfl (by omega) (by omega) h) ?_
      show pj_X _ _ (pj_wa G41 185 (Int32.ofInt 4).toInt.toNat (Int32.ofInt 0)) 103 [(4, .int y5), (3, .int y4), (0, .ref 171), (1, .int b), (2, .int c)] [] _
      obtain ⟨G51, hG51⟩ : ∃ H, H = pj_wa G41 185 (Int32.ofInt 4).toInt.toNat (Int32.ofInt 0) := ⟨_, rfl⟩
      have iG51 : pj_Inv G51 := by rw [hG51]; exact pj_Inv_wa iG41 rfl (fun q hq => by cases hq) (fun n hn => by cases hn)
      have kG51 : pj_kpt kc_204 G0 G51 := by rw [hG51]; exact pj_kpt_a kG41 rfl
      rw [← hG51]
      refine pj_X_of (fun r h => pj_R_to (G51, 104, [(4, .int y5), (3, .int y4), (0, .ref 171), (1, .int b), (2, .int c)], [.ref 171], 0, 0) 104 2 (fun _ => rfl) h) ?_
      refine pj_X_of (fun r h => pj_T_gr iG51 rfl rfl rfl h) ?_
      refine pj_X_of (fun r h => pj_R_to (G51, 109, [(4, .int y5), (3, .int y4), (0, .ref 171), (1, .int b), (2, .int c)], [.int b, .int (Int32.ofInt 5), .ref 185], 0, 0) 109 3 (fun _ => rfl) h) ?_
      refine pj_X_of (fun r h => pj_T_is iG51 rfl rfl (by omega) (by omega) h) ?_
      show pj_X _ _ (pj_wa G51 185 (Int32.ofInt 5).toInt.toNat b) 110 [(4, .int y5), (3, .int y4), (0, .ref 171), (1, .int b), (2, .int c)] [] _
      obtain ⟨G52, hG52⟩ : ∃ H, H = pj_wa G51 185 (Int32.ofInt 5).toInt.toNat b := ⟨_, rfl⟩
      have iG52 : pj_Inv G52 := by rw [hG52]; exact pj_Inv_wa iG51 rfl (fun q hq => by cases hq) (fun n hn => by cases hn)
      have kG52 : pj_kpt kc_204 G0 G52 := by rw [hG52]; exact pj_kpt_a kG51 rfl
      rw [← hG52]
      refine pj_X_of (fun r h => pj_R_to (G52, 111, [(4, .int y5), (3, .int y4), (0, .ref 171), (1, .int b), (2, .int c)], [.ref 171], 0, 0) 111 2 (fun _ => rfl) h) ?_
      refine pj_X_of (fun r h => pj_T_gr iG52 rfl rfl rfl h) ?_
      refine pj_X_of (fun r h => pj_R_to (G52, 117, [(4, .int y5), (3, .int y4), (0, .ref 171), (1, .int b), (2, .int c)], [.ref 171, .int ((Int8.ofInt 6).toInt32), .ref 185], 0, 0) 117 3 (fun _ => rfl) h) ?_
      refine pj_X_of (fun r h => pj_T_gr iG52 rfl rfl rfl h) ?_
      refine pj_X_of (fun r h => pj_R_to (G52, 122, [(4, .int y5), (3, .int y4), (0, .ref 171), (1, .int b), (2, .int c)], [.int ((Int8.ofInt 30).toInt32), .ref 179, .int ((Int8.ofInt 6).toInt32), .ref 185], 0, 0) 122 2 (fun _ => rfl) h) ?_
      refine pj_X_of (fun r h => pj_T_il iG52 rfl rfl (by omega) (by omega) h) ?_
      show pj_X _ _ G52 123 [(4, .int y5), (3, .int y4), (0, .ref 171), (1, .int b), (2, .int c)] [.int (pj_ai G52 179 ((Int8.ofInt 30).toInt32).toInt.toNat), .int ((Int8.ofInt 6).toInt32), .ref 185] _
      obtain ⟨z53, hz53⟩ : ∃ z : Int32, z = pj_ai G52 179 ((Int8.ofInt 30).toInt32).toInt.toNat := ⟨_, rfl⟩
      refine pj_X_eqi hz53.symm ?_
      have ez53 : (pj_ai G52 179 ((Int8.ofInt 30).toInt32).toInt.toNat).toInt = z53.toInt := by rw [hz53]
      refine pj_X_of (fun r h => pj_R_to (G52, 125, [(4, .int y5), (3, .int y4), (0, .ref 171), (1, .int b), (2, .int c)], [.int ((Int8.ofInt 24).toInt32), .int z53, .int ((Int8.ofInt 6).toInt32), .ref 185], 0, 0) 125 2 (fun _ => rfl) h) ?_
      refine pj_X_of (fun r h => pj_R_rm rfl (pj_nz (by omega)) h) ?_
      show pj_X _ _ G52 126 [(4, .int y5), (3, .int y4), (0, .ref 171), (1, .int b), (2, .int c)] [.int (z53 - z53 / ((Int8.ofInt 24).toInt32) * ((Int8.ofInt 24).toInt32)), .int ((Int8.ofInt 6).toInt32), .ref 185] _
      obtain ⟨z54, hz54⟩ : ∃ z : Int32, z = z53 - z53 / ((Int8.ofInt 24).toInt32) * ((Int8.ofInt 24).toInt32) := ⟨_, rfl⟩
      refine pj_X_eqi hz54.symm ?_
      refine pj_X_of (fun r h => pj_T_is iG52 rfl rfl (by omega) (by omega) h) ?_
      show pj_X _ _ (pj_wa G52 185 ((Int8.ofInt 6).toInt32).toInt.toNat z54) 127 [(4, .int y5), (3, .int y4), (0, .ref 171), (1, .int b), (2, .int c)] [] _
      obtain ⟨G55, hG55⟩ : ∃ H, H = pj_wa G52 185 ((Int8.ofInt 6).toInt32).toInt.toNat z54 := ⟨_, rfl⟩
      have iG55 : pj_Inv G55 := by rw [hG55]; exact pj_Inv_wa iG52 rfl (fun q hq => by cases hq) (fun n hn => by cases hn)
      have kG55 : pj_kpt kc_204 G0 G55 := by rw [hG55]; exact pj_kpt_a kG52 rfl
      rw [← hG55]
      refine pj_X_of (fun r h => pj_R_to (G55, 128, [(4, .int y5), (3, .int y4), (0, .ref 171), (1, .int b), (2, .int c)], [.ref 171], 0, 0) 128 2 (fun _ => rfl) h) ?_
      refine pj_X_ca (vs := [.ref 171]) rfl (fun _ => rfl) ⟨Nat.le_of_ble_eq_true rfl, Nat.le_of_ble_eq_true rfl, pj_T_rcv iG55 rfl⟩ ⟨rfl, rfl⟩ (pj_Y_up (by decide) (ct_202 G55 iG55 (pj_RI_k p0_ kG55 rfl))) ?_
      rintro _ G57 ⟨y56, rfl, iG57, jG57, ry56⟩
      have kG57 : pj_kpt kc_204 G0 G57 := pj_kpt_t kG55 (pj_kpt_s jG57 rfl)
      show pj_X _ _ G57 131 [(4, .int y5), (3, .int y4), (0, .ref 171), (1, .int b), (2, .int c)] [.int y56] _
      exact pj_X_rt rfl rfl ⟨_, rfl, iG57, kG57, ⟨by omega, by omega⟩⟩
