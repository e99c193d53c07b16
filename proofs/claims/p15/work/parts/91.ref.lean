/-- kept of the reference: what ruled() and route() lean on -/
def pj_rik (K : pj_KT) : Bool := !(pj_mF K.1 171 3 || (pj_mF K.1 171 4 || (pj_mF K.1 171 26 || (pj_mN K.2.2 173 || (pj_mN K.2.2 174 || pj_mN K.2.2 182)))))
theorem pj_mF_n {l : List (Nat × Nat)} {a k : Nat} (h : ¬ pj_mF l a k = true) : (a, k) ∉ l := fun hm => h (List.any_eq_true.mpr ⟨_, hm, by rw [Nat.beq_refl, Nat.beq_refl]; rfl⟩)
theorem pj_mN_n {l : List Nat} {a : Nat} (h : ¬ pj_mN l a = true) : a ∉ l := fun hm => h (List.any_eq_true.mpr ⟨_, hm, Nat.beq_refl _⟩)
/-- a rule's steps never take more than there is -/
def pj_vp (f : Nat → Int32) : Nat → Nat → Nat → Option Nat
  | 0, _, h => some h
  | n + 1, i, h => if (f i).toInt = 3000 then (if 1 ≤ h then pj_vp f n (i + 1) h else none) else if 2000 ≤ (f i).toInt then (if 2 ≤ h then pj_vp f n (i + 1) (h - 1) else none) else pj_vp f n (i + 1) (h + 1)
def pj_RI (G : pj_G) : Prop := (∀ c : Nat, (c : Int) < (pj_fi G 171 4).toInt → (pj_ai G 173 c).toInt < (pj_fi G 171 3).toInt ∧ (pj_ai G 174 c).toInt < (pj_fi G 171 3).toInt) ∧ ∃ r, pj_vp (fun j => pj_ai G 182 j) (pj_fi G 171 26).toInt.toNat 0 0 = some r
theorem pj_RI_e {G0 G : pj_G} (h : pj_RI G0) (e1 : pj_fi G 171 3 = pj_fi G0 171 3) (e2 : pj_fi G 171 4 = pj_fi G0 171 4) (e3 : pj_fi G 171 26 = pj_fi G0 171 26) (a1 : ∀ j, pj_ai G 173 j = pj_ai G0 173 j) (a2 : ∀ j, pj_ai G 174 j = pj_ai G0 174 j) (a3 : ∀ j, pj_ai G 182 j = pj_ai G0 182 j) : pj_RI G := by
  refine ⟨fun c hc => ?_, ?_⟩
  · rw [e1, a1, a2]
    rw [e2] at hc
    exact h.1 c hc
  · rw [e3]
    have e4 : (fun j => pj_ai G 182 j) = (fun j => pj_ai G0 182 j) := funext a3
    rw [e4]
    exact h.2
theorem pj_RI_k {K : pj_KT} {G0 G : pj_G} (h : pj_RI G0) (hK : pj_kpt K G0 G) (hW : pj_rik K = true) : pj_RI G := by
  unfold pj_rik at hW
  simp only [Bool.not_eq_true', Bool.or_eq_false_iff] at hW
  obtain ⟨h1, h2, h3, h4, h5, h6⟩ := hW
  exact pj_RI_e h (hK.1 _ (pj_mF_n (by rw [h1]; decide))) (hK.1 _ (pj_mF_n (by rw [h2]; decide))) (hK.1 _ (pj_mF_n (by rw [h3]; decide))) (hK.2.2 _ (pj_mN_n (by rw [h4]; decide))) (hK.2.2 _ (pj_mN_n (by rw [h5]; decide))) (hK.2.2 _ (pj_mN_n (by rw [h6]; decide)))
/-- behind k steps, top on the stack -/
def pj_vq (G : pj_G) (k t : Int32) : Prop := ∃ r, pj_vp (fun j => pj_ai G 182 j) ((pj_fi G 171 26).toInt - k.toInt).toNat k.toInt.toNat t.toInt.toNat = some r
theorem pj_vq_0 {G : pj_G} (h : pj_RI G) : pj_vq G (Int32.ofInt 0) (Int32.ofInt 0) := by
  have e : (Int32.ofInt 0).toInt = 0 := by decide
  unfold pj_vq
  rw [e, Int.sub_zero]
  exact h.2
theorem pj_vq_s {G : pj_G} {k t : Int32} (h : pj_vq G k t) (h0 : 0 ≤ k.toInt) (h1 : k.toInt < (pj_fi G 171 26).toInt) (h2 : 0 ≤ t.toInt) : ((pj_ai G 182 k.toInt.toNat).toInt = 3000 → 1 ≤ t.toInt) ∧ ((pj_ai G 182 k.toInt.toNat).toInt ≠ 3000 → 2000 ≤ (pj_ai G 182 k.toInt.toNat).toInt → 2 ≤ t.toInt) ∧ (∀ k' t' : Int32, k'.toInt = k.toInt + 1 → (((pj_ai G 182 k.toInt.toNat).toInt = 3000 ∧ t'.toInt = t.toInt) ∨ ((pj_ai G 182 k.toInt.toNat).toInt ≠ 3000 ∧ 2000 ≤ (pj_ai G 182 k.toInt.toNat).toInt ∧ t'.toInt = t.toInt - 1) ∨ ((pj_ai G 182 k.toInt.toNat).toInt < 2000 ∧ t'.toInt = t.toInt + 1)) → pj_vq G k' t') := by
  obtain ⟨r, h⟩ := h
  obtain ⟨n, hn⟩ : ∃ n, ((pj_fi G 171 26).toInt - k.toInt).toNat = n + 1 := ⟨((pj_fi G 171 26).toInt - k.toInt).toNat - 1, by omega⟩
  rw [hn] at h
  have h : (if (pj_ai G 182 k.toInt.toNat).toInt = 3000 then (if 1 ≤ t.toInt.toNat then pj_vp (fun j => pj_ai G 182 j) n (k.toInt.toNat + 1) t.toInt.toNat else none) else if 2000 ≤ (pj_ai G 182 k.toInt.toNat).toInt then (if 2 ≤ t.toInt.toNat then pj_vp (fun j => pj_ai G 182 j) n (k.toInt.toNat + 1) (t.toInt.toNat - 1) else none) else pj_vp (fun j => pj_ai G 182 j) n (k.toInt.toNat + 1) (t.toInt.toNat + 1)) = some r := h
  split at h
  · rename_i e
    split at h
    · refine ⟨fun _ => by omega, fun q => absurd e q, fun k' t' hk ht => ⟨r, ?_⟩⟩
      rw [show ((pj_fi G 171 26).toInt - k'.toInt).toNat = n by omega, show k'.toInt.toNat = k.toInt.toNat + 1 by omega, show t'.toInt.toNat = t.toInt.toNat by omega]
      exact h
    · cases h
  · rename_i e
    split at h
    · rename_i e2
      split at h
      · refine ⟨fun q => absurd q e, fun _ _ => by omega, fun k' t' hk ht => ⟨r, ?_⟩⟩
        rw [show ((pj_fi G 171 26).toInt - k'.toInt).toNat = n by omega, show k'.toInt.toNat = k.toInt.toNat + 1 by omega, show t'.toInt.toNat = t.toInt.toNat - 1 by omega]
        exact h
      · cases h
    · refine ⟨fun q => absurd q e, fun _ q => by omega, fun k' t' hk ht => ⟨r, ?_⟩⟩
      rw [show ((pj_fi G 171 26).toInt - k'.toInt).toNat = n by omega, show k'.toInt.toNat = k.toInt.toNat + 1 by omega, show t'.toInt.toNat = t.toInt.toNat + 1 by omega]
      exact h
noncomputable def F_202x (G0 : pj_G) (act : Int32) (a : Int32) (b : Int32) : Int32 := if act.toInt = 0 then (cond (pj_c1 .ge a b) (pj_nm (F_173x G0 (Int32.ofInt 0)) (fun y3 => y3)) (pj_nm (F_173x G0 (Int32.ofInt 1)) (fun y4 => y4))) else (if act.toInt = 1 then (cond (pj_c1 .le a b) (pj_nm (F_173x G0 (Int32.ofInt 0)) (fun y7 => y7)) (pj_nm (F_173x G0 (Int32.ofInt 1)) (fun y8 => y8))) else (if act.toInt = 2 then (cond (pj_c1 .ne a b) (pj_nm (F_173x G0 (Int32.ofInt 0)) (fun y11 => y11)) (pj_nm (F_173x G0 (Int32.ofInt 1)) (fun y12 => y12))) else (if act.toInt = 3 then (pj_nm (a + b) (fun z14 => z14)) else (if act.toInt = 4 then (pj_nm (a - b) (fun z16 => z16)) else (if act.toInt = 5 then (pj_nm (a * b) (fun z18 => z18)) else (cond (pj_c1 .ne b 0) (pj_nm (a / b) (fun z20 => z20)) (Int32.ofInt 0)))))))
theorem F_202x_e (G0 : pj_G) (act : Int32) (a : Int32) (b : Int32) : F_202x G0 act a b = if act.toInt = 0 then (cond (pj_c1 .ge a b) (pj_nm (F_173x G0 (Int32.ofInt 0)) (fun y3 => y3)) (pj_nm (F_173x G0 (Int32.ofInt 1)) (fun y4 => y4))) else (if act.toInt = 1 then (cond (pj_c1 .le a b) (pj_nm (F_173x G0 (Int32.ofInt 0)) (fun y7 => y7)) (pj_nm (F_173x G0 (Int32.ofInt 1)) (fun y8 => y8))) else (if act.toInt = 2 then (cond (pj_c1 .ne a b) (pj_nm (F_173x G0 (Int32.ofInt 0)) (fun y11 => y11)) (pj_nm (F_173x G0 (Int32.ofInt 1)) (fun y12 => y12))) else (if act.toInt = 3 then (pj_nm (a + b) (fun z14 => z14)) else (if act.toInt = 4 then (pj_nm (a - b) (fun z16 => z16)) else (if act.toInt = 5 then (pj_nm (a * b) (fun z18 => z18)) else (cond (pj_c1 .ne b 0) (pj_nm (a / b) (fun z20 => z20)) (Int32.ofInt 0))))))) := rfl
theorem ct_201x (G0 : pj_G) (hI : pj_Inv G0) (act : Int32) (a : Int32) (b : Int32) : pj_Y 2 201 [.int act, .int a, .int b] G0 (fun v' G' => ∃ y : Int32, v' = some (.int y) ∧ G0 = G' ∧ ((-2147483648 : Int) ≤ y.toInt ∧ y.toInt ≤ 2147483647) ∧ (y = F_202x G0 act a b)) := by
  have c0_ : (Int32.ofInt 0).toInt = 0 := by decide
  have c1_ : (Int32.ofInt 1).toInt = 1 := by decide
  refine pj_Y_X (M := pj_m201) rfl rfl (Nat.le_of_ble_eq_true rfl) ?_
  have hK : pj_kpt ([], [], []) G0 G0 := pj_kpt_r _ _
  show pj_X _ _ G0 0 [(0, .int act), (1, .int a), (2, .int b)] [] _
  rw [F_202x_e]
  refine pj_X_of (fun r h => pj_R_to (G0, 1, [(0, .int act), (1, .int a), (2, .int b)], [.int act], 0, 0) 1 2 (fun _ => rfl) h) ?_
  by_cases t1 : act.toInt = 0
  · refine pj_X_of (fun r h => pj_R_tw 40 rfl (n := 0) t1 rfl h) ?_
    rw [if_pos t1]
    refine pj_X_of (fun r h => pj_R_to (G0, 42, [(0, .int act), (1, .int a), (2, .int b)], [.int b, .int a], 0, 0) 42 3 (fun _ => rfl) h) ?_
    cases b2 : pj_c1 .ge a b with
    | true =>
      rw [pj_cT]
      have ub2 := pj_u_geT b2
      refine pj_X_of (fun r h => pj_R_icT 49 rfl rfl b2 h) ?_
      refine pj_X_of (fun r h => pj_R_to (G0, 50, [(0, .int act), (1, .int a), (2, .int b)], [.int (Int32.ofInt 0)], 0, 0) 50 2 (fun _ => rfl) h) ?_
      refine pj_X_ca (vs := [.int (Int32.ofInt 0)]) rfl (fun _ => rfl) ⟨Nat.le_of_ble_eq_true rfl, Nat.le_of_ble_eq_true rfl, rfl⟩ ⟨rfl, rfl⟩ (pj_Y_up (by decide) (ct_172x G0 hI (Int32.ofInt 0) ⟨by omega, by omega⟩)) ?_
      rintro _ _ ⟨y3, rfl, rfl, ry3, ey3, fy3⟩
      rw [← fy3, pj_nm_e]
      show pj_X _ _ G0 53 [(0, .int act), (1, .int a), (2, .int b)] [.int y3] _
      exact pj_X_rt rfl rfl ⟨_, rfl, rfl, pj_i32 _, rfl⟩
    | false =>
      rw [pj_cF]
      have ub2 := pj_u_geF b2
      refine pj_X_of (fun r h => pj_R_icF rfl b2 h) ?_
      refine pj_X_of (fun r h => pj_R_to (G0, 50, [(0, .int act), (1, .int a), (2, .int b)], [.int (Int32.ofInt 1)], 0, 0) 50 3 (fun _ => rfl) h) ?_
      refine pj_X_ca (vs := [.int (Int32.ofInt 1)]) rfl (fun _ => rfl) ⟨Nat.le_of_ble_eq_true rfl, Nat.le_of_ble_eq_true rfl, rfl⟩ ⟨rfl, rfl⟩ (pj_Y_up (by decide) (ct_172x G0 hI (Int32.ofInt 1) ⟨by omega, by omega⟩)) ?_
      rintro _ _ ⟨y4, rfl, rfl, ry4, ey4, fy4⟩
      rw [← fy4, pj_nm_e]
      show pj_X _ _ G0 53 [(0, .int act), (1, .int a), (2, .int b)] [.int y4] _
      exact pj_X_rt rfl rfl ⟨_, rfl, rfl, pj_i32 _, rfl⟩
  rw [if_neg t1]
  by_cases t5 : act.toInt = 1
  · refine pj_X_of (fun r h => pj_R_tw 54 rfl (n := 1) t5 rfl h) ?_
    rw [if_pos t5]
    refine pj_X_of (fun r h => pj_R_to (G0, 56, [(0, .int act), (1, .int a), (2, .int b)], [.int b, .int a], 0, 0) 56 3 (fun _ => rfl) h) ?_
    cases b6 : pj_c1 .le a b with
    | true =>
      rw [pj_cT]
      have ub6 := pj_u_leT b6
      refine pj_X_of (fun r h => pj_R_icT 63 rfl rfl b6 h) ?_
      refine pj_X_of (fun r h => pj_R_to (G0, 64, [(0, .int act), (1, .int a), (2, .int b)], [.int (Int32.ofInt 0)], 0, 0) 64 2 (fun _ => rfl) h) ?_
      refine pj_X_ca (vs := [.int (Int32.ofInt 0)]) rfl (fun _ => rfl) ⟨Nat.le_of_ble_eq_true rfl, Nat.le_of_ble_eq_true rfl, rfl⟩ ⟨rfl, rfl⟩ (pj_Y_up (by decide) (ct_172x G0 hI (Int32.ofInt 0) ⟨by omega, by omega⟩)) ?_
      rintro _ _ ⟨y7, rfl, rfl, ry7, ey7, fy7⟩
      rw [← fy7, pj_nm_e]
      show pj_X _ _ G0 67 [(0, .int act), (1, .int a), (2, .int b)] [.int y7] _
      exact pj_X_rt rfl rfl ⟨_, rfl, rfl, pj_i32 _, rfl⟩
    | false =>
      rw [pj_cF]
      have ub6 := pj_u_leF b6
      refine pj_X_of (fun r h => pj_R_icF rfl b6 h) ?_
      refine pj_X_of (fun r h => pj_R_to (G0, 64, [(0, .int act), (1, .int a), (2, .int b)], [.int (Int32.ofInt 1)], 0, 0) 64 3 (fun _ => rfl) h) ?_
      refine pj_X_ca (vs := [.int (Int32.ofInt 1)]) rfl (fun _ => rfl) ⟨Nat.le_of_ble_eq_true rfl, Nat.le_of_ble_eq_true rfl, rfl⟩ ⟨rfl, rfl⟩ (pj_Y_up (by decide) (ct_172x G0 hI (Int32.ofInt 1) ⟨by omega, by omega⟩)) ?_
      rintro _ _ ⟨y8, rfl, rfl, ry8, ey8, fy8⟩
      rw [← fy8, pj_nm_e]
      show pj_X _ _ G0 67 [(0, .int act), (1, .int a), (2, .int b)] [.int y8] _
      exact pj_X_rt rfl rfl ⟨_, rfl, rfl, pj_i32 _, rfl⟩
  rw [if_neg t5]
  by_cases t9 : act.toInt = 2
  · refine pj_X_of (fun r h => pj_R_tw 68 rfl (n := 2) t9 rfl h) ?_
    rw [if_pos t9]
    refine pj_X_of (fun r h => pj_R_to (G0, 70, [(0, .int act), (1, .int a), (2, .int b)], [.int b, .int a], 0, 0) 70 3 (fun _ => rfl) h) ?_
    cases b10 : pj_c1 .ne a b with
    | true =>
      rw [pj_cT]
      have ub10 := pj_u_neT b10
      refine pj_X_of (fun r h => pj_R_icT 77 rfl rfl b10 h) ?_
      refine pj_X_of (fun r h => pj_R_to (G0, 78, [(0, .int act), (1, .int a), (2, .int b)], [.int (Int32.ofInt 0)], 0, 0) 78 2 (fun _ => rfl) h) ?_
      refine pj_X_ca (vs := [.int (Int32.ofInt 0)]) rfl (fun _ => rfl) ⟨Nat.le_of_ble_eq_true rfl, Nat.le_of_ble_eq_true rfl, rfl⟩ ⟨rfl, rfl⟩ (pj_Y_up (by decide) (ct_172x G0 hI (Int32.ofInt 0) ⟨by omega, by omega⟩)) ?_
      rintro _ _ ⟨y11, rfl, rfl, ry11, ey11, fy11⟩
      rw [← fy11, pj_nm_e]
      show pj_X _ _ G0 81 [(0, .int act), (1, .int a), (2, .int b)] [.int y11] _
      exact pj_X_rt rfl rfl ⟨_, rfl, rfl, pj_i32 _, rfl⟩
    | false =>
      rw [pj_cF]
      have ub10 := pj_u_neF b10
      refine pj_X_of (fun r h => pj_R_icF rfl b10 h) ?_
      refine pj_X_of (fun r h => pj_R_to (G0, 78, [(0, .int act), (1, .int a), (2, .int b)], [.int (Int32.ofInt 1)], 0, 0) 78 3 (fun _ => rfl) h) ?_
      refine pj_X_ca (vs := [.int (Int32.ofInt 1)]) rfl (fun _ => rfl) ⟨Nat.le_of_ble_eq_true rfl, Nat.le_of_ble_eq_true rfl, rfl⟩ ⟨rfl, rfl⟩ (pj_Y_up (by decide) (ct_172x G0 hI (Int32.ofInt 1) ⟨by omega, by omega⟩)) ?_
      rintro _ _ ⟨y12, rfl, rfl, ry12, ey12, fy12⟩
      rw [← fy12, pj_nm_e]
      show pj_X _ _ G0 81 [(0, .int act), (1, .int a), (2, .int b)] [.int y12] _
      exact pj_X_rt rfl rfl ⟨_, rfl, rfl, pj_i32 _, rfl⟩
  rw [if_neg t9]
  by_cases t13 : act.toInt = 3
  · refine pj_X_of (fun r h => pj_R_tw 82 rfl (n := 3) t13 rfl h) ?_
    rw [if_pos t13]
    refine pj_X_of (fun r h => pj_R_to (G0, 85, [(0, .int act), (1, .int a), (2, .int b)], [.int (a + b)], 0, 0) 85 4 (fun _ => rfl) h) ?_
    obtain ⟨z14, hz14⟩ : ∃ z : Int32, z = a + b := ⟨_, rfl⟩
    refine pj_X_eqi hz14.symm ?_
    rw [← hz14, pj_nm_e]
    exact pj_X_rt rfl rfl ⟨_, rfl, rfl, pj_i32 _, rfl⟩
  rw [if_neg t13]
  by_cases t15 : act.toInt = 4
  · refine pj_X_of (fun r h => pj_R_tw 86 rfl (n := 4) t15 rfl h) ?_
    rw [if_pos t15]
    refine pj_X_of (fun r h => pj_R_to (G0, 89, [(0, .int act), (1, .int a), (2, .int b)], [.int (a - b)], 0, 0) 89 4 (fun _ => rfl) h) ?_
    obtain ⟨z16, hz16⟩ : ∃ z : Int32, z = a - b := ⟨_, rfl⟩
    refine pj_X_eqi hz16.symm ?_
    rw [← hz16, pj_nm_e]
    exact pj_X_rt rfl rfl ⟨_, rfl, rfl, pj_i32 _, rfl⟩
  rw [if_neg t15]
  by_cases t17 : act.toInt = 5
  · refine pj_X_of (fun r h => pj_R_tw 90 rfl (n := 5) t17 rfl h) ?_
    rw [if_pos t17]
    refine pj_X_of (fun r h => pj_R_to (G0, 93, [(0, .int act), (1, .int a), (2, .int b)], [.int (a * b)], 0, 0) 93 4 (fun _ => rfl) h) ?_
    obtain ⟨z18, hz18⟩ : ∃ z : Int32, z = a * b := ⟨_, rfl⟩
    refine pj_X_eqi hz18.symm ?_
    rw [← hz18, pj_nm_e]
    exact pj_X_rt rfl rfl ⟨_, rfl, rfl, pj_i32 _, rfl⟩
  rw [if_neg t17]
  refine pj_X_of (fun r h => pj_R_td 94 rfl (by omega) rfl h) ?_
  refine pj_X_of (fun r h => pj_R_to (G0, 95, [(0, .int act), (1, .int a), (2, .int b)], [.int b], 0, 0) 95 2 (fun _ => rfl) h) ?_
  cases b19 : pj_c1 .ne b 0 with
  | true =>
    rw [pj_cT]
    have ub19 := pj_u0_neT b19
    refine pj_X_of (fun r h => pj_R_ifT 102 rfl rfl b19 h) ?_
    refine pj_X_of (fun r h => pj_R_to (G0, 104, [(0, .int act), (1, .int a), (2, .int b)], [.int b, .int a], 0, 0) 104 3 (fun _ => rfl) h) ?_
    refine pj_X_of (fun r h => pj_R_dv rfl (pj_nz (by omega)) h) ?_
    show pj_X _ _ G0 105 [(0, .int act), (1, .int a), (2, .int b)] [.int (a / b)] _
    obtain ⟨z20, hz20⟩ : ∃ z : Int32, z = a / b := ⟨_, rfl⟩
    refine pj_X_eqi hz20.symm ?_
    rw [← hz20, pj_nm_e]
    exact pj_X_rt rfl rfl ⟨_, rfl, rfl, pj_i32 _, rfl⟩
  | false =>
    rw [pj_cF]
    have ub19 := pj_u0_neF b19
    refine pj_X_of (fun r h => pj_R_ifF rfl b19 h) ?_
    refine pj_X_of (fun r h => pj_R_to (G0, 105, [(0, .int act), (1, .int a), (2, .int b)], [.int (Int32.ofInt 0)], 0, 0) 105 3 (fun _ => rfl) h) ?_
    exact pj_X_rt rfl rfl ⟨_, rfl, rfl, pj_i32 _, rfl⟩
def kc_202x : pj_KT := ([], [184], [184])
noncomputable def L_203x (G0 : pj_G) (fu : Nat) : Int32 → Int32 → pj_G → Int32 × pj_G := Nat.rec (motive := fun _ => Int32 → Int32 → pj_G → Int32 × pj_G) (fun _ _ G => (0, G)) (fun _ ih v1 v2 G => pj_nm (pj_fi G 171 26) (fun y1 => cond (pj_c1 .ge v2 y1) (cond (pj_c1 .ne y1 0) (pj_nm (pj_ai G 184 (Int32.ofInt 0).toInt.toNat) (fun z4 => pj_nm ((if z4 < ((Int8.ofInt 99).toInt32) then z4 else ((Int8.ofInt 99).toInt32))) (fun z5 => pj_nm ((if (Int32.ofInt 1) < z5 then z5 else (Int32.ofInt 1))) (fun z6 => (z6, G))))) (pj_nm (pj_ai G 185 (Int32.ofInt 0).toInt.toNat) (fun z8 => pj_nm (z8 / ((Int8.ofInt 9).toInt32)) (fun z9 => pj_nm (pj_ai G 185 (Int32.ofInt 1).toInt.toNat) (fun z10 => pj_nm ((Int32.ofInt 2) * z10) (fun z11 => pj_nm (z9 + z11) (fun z12 => pj_nm (z12 + (Int32.ofInt 1)) (fun z13 => pj_nm ((if z13 < ((Int8.ofInt 99).toInt32) then z13 else ((Int8.ofInt 99).toInt32))) (fun z14 => pj_nm ((if (Int32.ofInt 1) < z14 then z14 else (Int32.ofInt 1))) (fun z15 => (z15, G))))))))))) (pj_nm (pj_ai G 182 v2.toInt.toNat) (fun z17 => cond (pj_c1 .ne z17 ((Int16.ofInt 3000).toInt32)) (cond (pj_c1 .lt z17 ((Int16.ofInt 2000).toInt32)) (cond (pj_c1 .lt z17 ((Int16.ofInt 1000).toInt32)) (pj_nm (pj_wa G 184 v1.toInt.toNat z17) (fun G21 => pj_nm (v1 + Int32.ofInt 1) (fun z22 => pj_nm (v2 + Int32.ofInt 1) (fun z23 => ih z22 z23 G21)))) (pj_nm (z17 - ((Int16.ofInt 1000).toInt32)) (fun z25 => pj_nm (pj_ai G 185 z25.toInt.toNat) (fun z26 => pj_nm (pj_wa G 184 v1.toInt.toNat z26) (fun G27 => pj_nm (v1 + Int32.ofInt 1) (fun z28 => pj_nm (v2 + Int32.ofInt 1) (fun z29 => ih z28 z29 G27))))))) (pj_nm (v1 + Int32.ofInt (-1)) (fun z31 => pj_nm (z31 - (Int32.ofInt 1)) (fun z32 => pj_nm (z17 - ((Int16.ofInt 2000).toInt32)) (fun z33 => pj_nm (pj_ai G 184 z32.toInt.toNat) (fun z34 => pj_nm (pj_ai G 184 z31.toInt.toNat) (fun z35 => pj_nm (F_202x G z33 z34 z35) (fun y37 => pj_nm (pj_wa G 184 z32.toInt.toNat y37) (fun G38 => pj_nm (v2 + Int32.ofInt 1) (fun z39 => ih z31 z39 G38)))))))))) (pj_nm (v1 - (Int32.ofInt 1)) (fun z41 => pj_nm (pj_ai G 184 z41.toInt.toNat) (fun z42 => pj_nm (-z42) (fun z43 => pj_nm (pj_wa G 184 z41.toInt.toNat z43) (fun G44 => pj_nm (v2 + Int32.ofInt 1) (fun z45 => ih v1 z45 G44)))))))))) fu
theorem L_203x_s0 (G0 : pj_G) (fu : Nat) (v1 : Int32) (v2 : Int32) (G : pj_G) : L_203x G0 (fu + 1) v1 v2 G = pj_nm (pj_fi G 171 26) (fun y1 => cond (pj_c1 .ge v2 y1) (cond (pj_c1 .ne y1 0) (pj_nm (pj_ai G 184 (Int32.ofInt 0).toInt.toNat) (fun z4 => pj_nm ((if z4 < ((Int8.ofInt 99).toInt32) then z4 else ((Int8.ofInt 99).toInt32))) (fun z5 => pj_nm ((if (Int32.ofInt 1) < z5 then z5 else (Int32.ofInt 1))) (fun z6 => (z6, G))))) (pj_nm (pj_ai G 185 (Int32.ofInt 0).toInt.toNat) (fun z8 => pj_nm (z8 / ((Int8.ofInt 9).toInt32)) (fun z9 => pj_nm (pj_ai G 185 (Int32.ofInt 1).toInt.toNat) (fun z10 => pj_nm ((Int32.ofInt 2) * z10) (fun z11 => pj_nm (z9 + z11) (fun z12 => pj_nm (z12 + (Int32.ofInt 1)) (fun z13 => pj_nm ((if z13 < ((Int8.ofInt 99).toInt32) then z13 else ((Int8.ofInt 99).toInt32))) (fun z14 => pj_nm ((if (Int32.ofInt 1) < z14 then z14 else (Int32.ofInt 1))) (fun z15 => (z15, G))))))))))) (pj_nm (pj_ai G 182 v2.toInt.toNat) (fun z17 => cond (pj_c1 .ne z17 ((Int16.ofInt 3000).toInt32)) (cond (pj_c1 .lt z17 ((Int16.ofInt 2000).toInt32)) (cond (pj_c1 .lt z17 ((Int16.ofInt 1000).toInt32)) (pj_nm (pj_wa G 184 v1.toInt.toNat z17) (fun G21 => pj_nm (v1 + Int32.ofInt 1) (fun z22 => pj_nm (v2 + Int32.ofInt 1) (fun z23 => L_203x G0 fu z22 z23 G21)))) (pj_nm (z17 - ((Int16.ofInt 1000).toInt32)) (fun z25 => pj_nm (pj_ai G 185 z25.toInt.toNat) (fun z26 => pj_nm (pj_wa G 184 v1.toInt.toNat z26) (fun G27 => pj_nm (v1 + Int32.ofInt 1) (fun z28 => pj_nm (v2 + Int32.ofInt 1) (fun z29 => L_203x G0 fu z28 z29 G27))))))) (pj_nm (v1 + Int32.ofInt (-1)) (fun z31 => pj_nm (z31 - (Int32.ofInt 1)) (fun z32 => pj_nm (z17 - ((Int16.ofInt 2000).toInt32)) (fun z33 => pj_nm (pj_ai G 184 z32.toInt.toNat) (fun z34 => pj_nm (pj_ai G 184 z31.toInt.toNat) (fun z35 => pj_nm (F_202x G z33 z34 z35) (fun y37 => pj_nm (pj_wa G 184 z32.toInt.toNat y37) (fun G38 => pj_nm (v2 + Int32.ofInt 1) (fun z39 => L_203x G0 fu z31 z39 G38)))))))))) (pj_nm (v1 - (Int32.ofInt 1)) (fun z41 => pj_nm (pj_ai G 184 z41.toInt.toNat) (fun z42 => pj_nm (-z42) (fun z43 => pj_nm (pj_wa G 184 z41.toInt.toNat z43) (fun G44 => pj_nm (v2 + Int32.ofInt 1) (fun z45 => L_203x G0 fu v1 z45 G44))))))))) := rfl
noncomputable def F_203x (G0 : pj_G) : Int32 × pj_G := L_203x G0 81 (Int32.ofInt 0) (Int32.ofInt 0) G0
theorem F_203x_e (G0 : pj_G) : F_203x G0 = L_203x G0 81 (Int32.ofInt 0) (Int32.ofInt 0) G0 := rfl
theorem lp_ct_202x (G0 : pj_G) (hI0 : pj_Inv G0) (p0_ : pj_RI G0) : ∀ mn : Nat, (∀ (G : pj_G) (hI : pj_Inv G) (hK : pj_kpt kc_202x G0 G) (v1 : Int32) (v2 : Int32), ((0 : Int) ≤ v1.toInt ∧ v1.toInt ≤ 80) → ((0 : Int) ≤ v2.toInt ∧ v2.toInt ≤ 80) → (pj_vq G0 v2 v1) → (v1.toInt ≤ v2.toInt) → 80 - v2.toInt < (mn : Int) → pj_X 2 pj_m202 G 4 [(0, .ref 171), (1, .int v1), (2, .int v2)] [] (fun v' G' => ∃ y : Int32, v' = some (.int y) ∧ pj_Inv G' ∧ pj_kpt kc_202x G0 G' ∧ ((1 : Int) ≤ y.toInt ∧ y.toInt ≤ 99) ∧ ((y, G') = L_203x G0 mn v1 v2 G))) := by
  have c0_ : ((Int16.ofInt 1000).toInt32).toInt = 1000 := by decide
  have c1_ : ((Int16.ofInt 2000).toInt32).toInt = 2000 := by decide
  have c2_ : ((Int16.ofInt 3000).toInt32).toInt = 3000 := by decide
  have c3_ : ((Int8.ofInt 9).toInt32).toInt = 9 := by decide
  have c4_ : ((Int8.ofInt 99).toInt32).toInt = 99 := by decide
  have c5_ : (Int32.ofInt (-1)).toInt = -1 := by decide
  have c6_ : (Int32.ofInt 0).toInt = 0 := by decide
  have c7_ : (Int32.ofInt 1).toInt = 1 := by decide
  have c8_ : (Int32.ofInt 2).toInt = 2 := by decide
  intro mn
  induction mn with
  | zero =>
    intro G hI hK v1 v2 rv1 rv2 x0_ x1_ hm
    exfalso
    omega
  | succ mn ih =>
    intro G hI hK v1 v2 rv1 rv2 x0_ x1_ hm
    rw [L_203x_s0]
    obtain ⟨y1, hy1⟩ : ∃ z : Int32, z = pj_fi G 171 26 := ⟨_, rfl⟩
    have ey1 : (pj_fi G 171 26).toInt = y1.toInt := by rw [hy1]
    have ry1 : (0 : Int) ≤ y1.toInt ∧ y1.toInt ≤ 80 := by rw [hy1]; exact hI.2.1 171 26 (0, 80) rfl
    refine pj_X_of (fun r h => pj_R_to (G, 6, [(0, .ref 171), (1, .int v1), (2, .int v2)], [.ref 171, .int v2], 0, 0) 6 3 (fun _ => rfl) h) ?_
    refine pj_X_of (fun r h => pj_T_gi hI rfl rfl h) ?_
    show pj_X _ _ G 9 [(0, .ref 171), (1, .int v1), (2, .int v2)] [.int (pj_fi G 171 26), .int v2] _
    rw [← hy1, pj_nm_e]
    cases b2 : pj_c1 .ge v2 y1 with
    | true =>
      rw [pj_cT]
      have ub2 := pj_u_geT b2
      refine pj_X_of (fun r h => pj_R_icT 125 rfl rfl b2 h) ?_
      refine pj_X_of (fun r h => pj_R_to (G, 126, [(0, .ref 171), (1, .int v1), (2, .int v2)], [.ref 171], 0, 0) 126 2 (fun _ => rfl) h) ?_
      refine pj_X_of (fun r h => pj_T_gi hI rfl rfl h) ?_
      show pj_X _ _ G 129 [(0, .ref 171), (1, .int v1), (2, .int v2)] [.int (pj_fi G 171 26)] _
      refine pj_X_eqi (show pj_fi G 171 26 = y1 from hy1.symm) ?_
      cases b3 : pj_c1 .ne y1 0 with
      | true =>
        rw [pj_cT]
        have ub3 := pj_u0_neT b3
        refine pj_X_of (fun r h => pj_R_ifT 155 rfl rfl b3 h) ?_
        refine pj_X_of (fun r h => pj_R_to (G, 156, [(0, .ref 171), (1, .int v1), (2, .int v2)], [.ref 171], 0, 0) 156 2 (fun _ => rfl) h) ?_
        refine pj_X_of (fun r h => pj_T_gr hI rfl rfl rfl h) ?_
        refine pj_X_of (fun r h => pj_R_to (G, 160, [(0, .ref 171), (1, .int v1), (2, .int v2)], [.int (Int32.ofInt 0), .ref 184], 0, 0) 160 2 (fun _ => rfl) h) ?_
        refine pj_X_of (fun r h => pj_T_il hI rfl rfl (by omega) (by omega) h) ?_
        show pj_X _ _ G 161 [(0, .ref 171), (1, .int v1), (2, .int v2)] [.int (pj_ai G 184 (Int32.ofInt 0).toInt.toNat)] _
        obtain ⟨z4, hz4⟩ : ∃ z : Int32, z = pj_ai G 184 (Int32.ofInt 0).toInt.toNat := ⟨_, rfl⟩
        refine pj_X_eqi hz4.symm ?_
        rw [← hz4, pj_nm_e]
        have ez4 : (pj_ai G 184 (Int32.ofInt 0).toInt.toNat).toInt = z4.toInt := by rw [hz4]
        refine pj_X_of (fun r h => pj_R_to (G, 166, [(2, .int z4), (0, .ref 171), (1, .int v1)], [.int z4, .int ((Int8.ofInt 99).toInt32), .int (Int32.ofInt 1)], 0, 0) 166 5 (fun _ => rfl) h) ?_
        refine pj_X_of (fun r h => pj_R_mn (v := (if z4 < ((Int8.ofInt 99).toInt32) then z4 else ((Int8.ofInt 99).toInt32))) rfl rfl rfl (Nat.le_of_ble_eq_true rfl) h) ?_
        show pj_X _ _ G 169 [(2, .int z4), (0, .ref 171), (1, .int v1)] [.int (if z4 < ((Int8.ofInt 99).toInt32) then z4 else ((Int8.ofInt 99).toInt32)), .int (Int32.ofInt 1)] _
        obtain ⟨z5, hz5⟩ : ∃ z : Int32, z = (if z4 < ((Int8.ofInt 99).toInt32) then z4 else ((Int8.ofInt 99).toInt32)) := ⟨_, rfl⟩
        refine pj_X_eqi hz5.symm ?_
        rw [← hz5, pj_nm_e]
        have fz5_0 : z5.toInt ≤ ((Int8.ofInt 99).toInt32).toInt ∧ z5.toInt ≤ z4.toInt ∧ (z5.toInt = ((Int8.ofInt 99).toInt32).toInt ∨ z5.toInt = z4.toInt) := by rw [hz5]; exact pj_minI
        refine pj_X_of (fun r h => pj_R_mx (v := (if (Int32.ofInt 1) < z5 then z5 else (Int32.ofInt 1))) rfl rfl rfl (Nat.le_of_ble_eq_true rfl) h) ?_
        show pj_X _ _ G 172 [(2, .int z4), (0, .ref 171), (1, .int v1)] [.int (if (Int32.ofInt 1) < z5 then z5 else (Int32.ofInt 1))] _
        obtain ⟨z6, hz6⟩ : ∃ z : Int32, z = (if (Int32.ofInt 1) < z5 then z5 else (Int32.ofInt 1)) := ⟨_, rfl⟩
        refine pj_X_eqi hz6.symm ?_
        rw [← hz6, pj_nm_e]
        have fz6_0 : (Int32.ofInt 1).toInt ≤ z6.toInt ∧ z5.toInt ≤ z6.toInt ∧ (z6.toInt = (Int32.ofInt 1).toInt ∨ z6.toInt = z5.toInt) := by rw [hz6]; exact pj_maxI
        have q7 : (pj_fi G 171 26).toInt = y1.toInt := by rw [show pj_fi G 171 26 = y1 from hy1.symm]
        exact pj_X_rt rfl rfl ⟨_, rfl, hI, hK, ⟨by omega, by omega⟩, rfl⟩
      | false =>
        rw [pj_cF]
        have ub3 := pj_u0_neF b3
        refine pj_X_of (fun r h => pj_R_ifF rfl b3 h) ?_
        refine pj_X_of (fun r h => pj_R_to (G, 133, [(0, .ref 171), (1, .int v1), (2, .int v2)], [.ref 171], 0, 0) 133 2 (fun _ => rfl) h) ?_
        refine pj_X_of (fun r h => pj_T_gr hI rfl rfl rfl h) ?_
        refine pj_X_of (fun r h => pj_R_to (G, 137, [(0, .ref 171), (1, .int v1), (2, .int v2)], [.int (Int32.ofInt 0), .ref 185], 0, 0) 137 2 (fun _ => rfl) h) ?_
        refine pj_X_of (fun r h => pj_T_il hI rfl rfl (by omega) (by omega) h) ?_
        show pj_X _ _ G 138 [(0, .ref 171), (1, .int v1), (2, .int v2)] [.int (pj_ai G 185 (Int32.ofInt 0).toInt.toNat)] _
        obtain ⟨z8, hz8⟩ : ∃ z : Int32, z = pj_ai G 185 (Int32.ofInt 0).toInt.toNat := ⟨_, rfl⟩
        refine pj_X_eqi hz8.symm ?_
        rw [← hz8, pj_nm_e]
        have ez8 : (pj_ai G 185 (Int32.ofInt 0).toInt.toNat).toInt = z8.toInt := by rw [hz8]
        refine pj_X_of (fun r h => pj_R_to (G, 140, [(0, .ref 171), (1, .int v1), (2, .int v2)], [.int ((Int8.ofInt 9).toInt32), .int z8], 0, 0) 140 2 (fun _ => rfl) h) ?_
        refine pj_X_of (fun r h => pj_R_dv rfl (pj_nz (by omega)) h) ?_
        show pj_X _ _ G 141 [(0, .ref 171), (1, .int v1), (2, .int v2)] [.int (z8 / ((Int8.ofInt 9).toInt32))] _
        obtain ⟨z9, hz9⟩ : ∃ z : Int32, z = z8 / ((Int8.ofInt 9).toInt32) := ⟨_, rfl⟩
        refine pj_X_eqi hz9.symm ?_
        rw [← hz9, pj_nm_e]
        refine pj_X_of (fun r h => pj_R_to (G, 143, [(0, .ref 171), (1, .int v1), (2, .int v2)], [.ref 171, .int (Int32.ofInt 2), .int z9], 0, 0) 143 3 (fun _ => rfl) h) ?_
        refine pj_X_of (fun r h => pj_T_gr hI rfl rfl rfl h) ?_
        refine pj_X_of (fun r h => pj_R_to (G, 147, [(0, .ref 171), (1, .int v1), (2, .int v2)], [.int (Int32.ofInt 1), .ref 185, .int (Int32.ofInt 2), .int z9], 0, 0) 147 2 (fun _ => rfl) h) ?_
        refine pj_X_of (fun r h => pj_T_il hI rfl rfl (by omega) (by omega) h) ?_
        show pj_X _ _ G 148 [(0, .ref 171), (1, .int v1), (2, .int v2)] [.int (pj_ai G 185 (Int32.ofInt 1).toInt.toNat), .int (Int32.ofInt 2), .int z9] _
        obtain ⟨z10, hz10⟩ : ∃ z : Int32, z = pj_ai G 185 (Int32.ofInt 1).toInt.toNat := ⟨_, rfl⟩
        refine pj_X_eqi hz10.symm ?_
        rw [← hz10, pj_nm_e]
        have ez10 : (pj_ai G 185 (Int32.ofInt 1).toInt.toNat).toInt = z10.toInt := by rw [hz10]
        refine pj_X_of (fun r h => pj_R_to (G, 149, [(0, .ref 171), (1, .int v1), (2, .int v2)], [.int ((Int32.ofInt 2) * z10), .int z9], 0, 0) 149 2 (fun _ => rfl) h) ?_
        obtain ⟨z11, hz11⟩ : ∃ z : Int32, z = (Int32.ofInt 2) * z10 := ⟨_, rfl⟩
        refine pj_X_eqi hz11.symm ?_
        rw [← hz11, pj_nm_e]
        refine pj_X_of (fun r h => pj_R_to (G, 150, [(0, .ref 171), (1, .int v1), (2, .int v2)], [.int (z9 + z11)], 0, 0) 150 2 (fun _ => rfl) h) ?_
        obtain ⟨z12, hz12⟩ : ∃ z : Int32, z = z9 + z11 := ⟨_, rfl⟩
        refine pj_X_eqi hz12.symm ?_
        rw [← hz12, pj_nm_e]
        refine pj_X_of (fun r h => pj_R_to (G, 152, [(0, .ref 171), (1, .int v1), (2, .int v2)], [.int (z12 + (Int32.ofInt 1))], 0, 0) 152 3 (fun _ => rfl) h) ?_
        obtain ⟨z13, hz13⟩ : ∃ z : Int32, z = z12 + (Int32.ofInt 1) := ⟨_, rfl⟩
        refine pj_X_eqi hz13.symm ?_
        rw [← hz13, pj_nm_e]
        refine pj_X_of (fun r h => pj_R_to (G, 166, [(2, .int z13), (0, .ref 171), (1, .int v1)], [.int z13, .int ((Int8.ofInt 99).toInt32), .int (Int32.ofInt 1)], 0, 0) 166 6 (fun _ => rfl) h) ?_
        refine pj_X_of (fun r h => pj_R_mn (v := (if z13 < ((Int8.ofInt 99).toInt32) then z13 else ((Int8.ofInt 99).toInt32))) rfl rfl rfl (Nat.le_of_ble_eq_true rfl) h) ?_
        show pj_X _ _ G 169 [(2, .int z13), (0, .ref 171), (1, .int v1)] [.int (if z13 < ((Int8.ofInt 99).toInt32) then z13 else ((Int8.ofInt 99).toInt32)), .int (Int32.ofInt 1)] _
        obtain ⟨z14, hz14⟩ : ∃ z : Int32, z = (if z13 < ((Int8.ofInt 99).toInt32) then z13 else ((Int8.ofInt 99).toInt32)) := ⟨_, rfl⟩
        refine pj_X_eqi hz14.symm ?_
        rw [← hz14, pj_nm_e]
        have fz14_0 : z14.toInt ≤ ((Int8.ofInt 99).toInt32).toInt ∧ z14.toInt ≤ z13.toInt ∧ (z14.toInt = ((Int8.ofInt 99).toInt32).toInt ∨ z14.toInt = z13.toInt) := by rw [hz14]; exact pj_minI
        refine pj_X_of (fun r h => pj_R_mx (v := (if (Int32.ofInt 1) < z14 then z14 else (Int32.ofInt 1))) rfl rfl rfl (Nat.le_of_ble_eq_true rfl) h) ?_
        show pj_X _ _ G 172 [(2, .int z13), (0, .ref 171), (1, .int v1)] [.int (if (Int32.ofInt 1) < z14 then z14 else (Int32.ofInt 1))] _
        obtain ⟨z15, hz15⟩ : ∃ z : Int32, z = (if (Int32.ofInt 1) < z14 then z14 else (Int32.ofInt 1)) := ⟨_, rfl⟩
        refine pj_X_eqi hz15.symm ?_
        rw [← hz15, pj_nm_e]
        have fz15_0 : (Int32.ofInt 1).toInt ≤ z15.toInt ∧ z14.toInt ≤ z15.toInt ∧ (z15.toInt = (Int32.ofInt 1).toInt ∨ z15.toInt = z14.toInt) := by rw [hz15]; exact pj_maxI
        have q16 : (pj_fi G 171 26).toInt = y1.toInt := by rw [show pj_fi G 171 26 = y1 from hy1.symm]
        exact pj_X_rt rfl rfl ⟨_, rfl, hI, hK, ⟨by omega, by omega⟩, rfl⟩
    | false =>
      rw [pj_cF]
      have ub2 := pj_u_geF b2
      refine pj_X_of (fun r h => pj_R_icF rfl b2 h) ?_
      refine pj_X_of (fun r h => pj_R_to (G, 13, [(0, .ref 171), (1, .int v1), (2, .int v2)], [.ref 171], 0, 0) 13 2 (fun _ => rfl) h) ?_
      refine pj_X_of (fun r h => pj_T_gr hI rfl rfl rfl h) ?_
      refine pj_X_of (fun r h => pj_R_to (G, 17, [(0, .ref 171), (1, .int v1), (2, .int v2)], [.int v2, .ref 182], 0, 0) 17 2 (fun _ => rfl) h) ?_
      refine pj_X_of (fun r h => pj_T_il hI rfl rfl (by omega) (by omega) h) ?_
      show pj_X _ _ G 18 [(0, .ref 171), (1, .int v1), (2, .int v2)] [.int (pj_ai G 182 v2.toInt.toNat)] _
      obtain ⟨z17, hz17⟩ : ∃ z : Int32, z = pj_ai G 182 v2.toInt.toNat := ⟨_, rfl⟩
      refine pj_X_eqi hz17.symm ?_
      rw [← hz17, pj_nm_e]
      have ez17 : (pj_ai G 182 v2.toInt.toNat).toInt = z17.toInt := by rw [hz17]
      have fz17_0 : (-1 : Int) ≤ z17.toInt ∧ z17.toInt ≤ 3000 ∧ (z17.toInt ≤ 1006 ∨ 2000 ≤ z17.toInt) := by rw [hz17]; exact hI.2.2.1 182 (80, -1, 3000, 1006, 2000) rfl _ (by show _ < 80; omega)
      refine pj_X_of (fun r h => pj_R_to (G, 19, [(3, .int z17), (0, .ref 171), (1, .int v1), (2, .int v2)], [], 0, 0) 19 2 (fun _ => rfl) h) ?_
      have hc0 : (pj_ai G0 182 v2.toInt.toNat).toInt = z17.toInt := by rw [hz17, hK.2.2 182 (by decide)]
      have hl0 : (pj_fi G0 171 26).toInt = y1.toInt := by rw [hy1, hK.1 (171, 26) (by decide)]
      obtain ⟨hA, hB, hN⟩ := pj_vq_s x0_ (by omega) (by omega) (by omega)
      rw [hc0] at hA hB hN
      refine pj_X_of (fun r h => pj_R_to (G, 23, [(3, .int z17), (0, .ref 171), (1, .int v1), (2, .int v2)], [.int ((Int16.ofInt 3000).toInt32), .int z17], 0, 0) 23 3 (fun _ => rfl) h) ?_
      cases b18 : pj_c1 .ne z17 ((Int16.ofInt 3000).toInt32) with
      | true =>
        rw [pj_cT]
        have ub18 := pj_u_neT b18
        refine pj_X_of (fun r h => pj_R_icT 46 rfl rfl b18 h) ?_
        refine pj_X_of (fun r h => pj_R_to (G, 50, [(3, .int z17), (0, .ref 171), (1, .int v1), (2, .int v2)], [.int ((Int16.ofInt 2000).toInt32), .int z17], 0, 0) 50 3 (fun _ => rfl) h) ?_
        cases b19 : pj_c1 .lt z17 ((Int16.ofInt 2000).toInt32) with
        | true =>
          rw [pj_cT]
          have ub19 := pj_u_ltT b19
          refine pj_X_of (fun r h => pj_R_icT 89 rfl rfl b19 h) ?_
          refine pj_X_of (fun r h => pj_R_to (G, 90, [(3, .int z17), (0, .ref 171), (1, .int v1), (2, .int v2)], [.ref 171], 0, 0) 90 2 (fun _ => rfl) h) ?_
          refine pj_X_of (fun r h => pj_T_gr hI rfl rfl rfl h) ?_
          refine pj_X_of (fun r h => pj_R_to (G, 98, [(3, .int z17), (0, .ref 171), (1, .int v1), (2, .int v2)], [.int ((Int16.ofInt 1000).toInt32), .int z17, .int v1, .ref 184], 0, 0) 98 4 (fun _ => rfl) h) ?_
          cases b20 : pj_c1 .lt z17 ((Int16.ofInt 1000).toInt32) with
          | true =>
            rw [pj_cT]
            have ub20 := pj_u_ltT b20
            refine pj_X_of (fun r h => pj_R_icT 114 rfl rfl b20 h) ?_
            refine pj_X_of (fun r h => pj_R_to (G, 115, [(3, .int z17), (0, .ref 171), (1, .int v1), (2, .int v2)], [.int z17, .int v1, .ref 184], 0, 0) 115 2 (fun _ => rfl) h) ?_
            refine pj_X_of (fun r h => pj_T_is hI rfl rfl (by omega) (by omega) h) ?_
            show pj_X _ _ (pj_wa G 184 v1.toInt.toNat z17) 116 [(3, .int z17), (0, .ref 171), (1, .int v1), (2, .int v2)] [] _
            obtain ⟨G21, hG21⟩ : ∃ H, H = pj_wa G 184 v1.toInt.toNat z17 := ⟨_, rfl⟩
            have iG21 : pj_Inv G21 := by rw [hG21]; exact pj_Inv_wa hI rfl (fun q hq => by cases hq) (fun n hn => by cases hn)
            have kG21 : pj_kpt kc_202x G0 G21 := by rw [hG21]; exact pj_kpt_a hK rfl
            rw [← hG21]
            rw [pj_nm_e]
            refine pj_X_of (fun r h => pj_R_to (G21, 119, [(1, .int (v1 + Int32.ofInt 1)), (3, .int z17), (0, .ref 171), (2, .int v2)], [], 0, 0) 119 2 (fun _ => rfl) h) ?_
            obtain ⟨z22, hz22⟩ : ∃ z : Int32, z = v1 + Int32.ofInt 1 := ⟨_, rfl⟩
            rw [← hz22]
            rw [pj_nm_e]
            have fz22_0 : z22.toInt = v1.toInt + (Int32.ofInt 1).toInt := by rw [hz22]; exact pj_addI (by have := pj_i32 v1; have := pj_i32 (Int32.ofInt 1); omega) (by have := pj_i32 v1; have := pj_i32 (Int32.ofInt 1); omega)
            refine pj_X_of (fun r h => pj_R_to (G21, 122, [(2, .int (v2 + Int32.ofInt 1)), (1, .int z22), (3, .int z17), (0, .ref 171)], [], 0, 0) 122 2 (fun _ => rfl) h) ?_
            obtain ⟨z23, hz23⟩ : ∃ z : Int32, z = v2 + Int32.ofInt 1 := ⟨_, rfl⟩
            rw [← hz23]
            rw [pj_nm_e]
            have fz23_0 : z23.toInt = v2.toInt + (Int32.ofInt 1).toInt := by rw [hz23]; exact pj_addI (by have := pj_i32 v2; have := pj_i32 (Int32.ofInt 1); omega) (by have := pj_i32 v2; have := pj_i32 (Int32.ofInt 1); omega)
            refine pj_X_of (fun r h => pj_R_to (G21, 4, [(2, .int z23), (1, .int z22), (3, .int z17), (0, .ref 171)], [], 0, 0) 4 2 (fun _ => rfl) h) ?_
            have q24 : (pj_fi G21 171 26).toInt = y1.toInt := by rw [show pj_fi G21 171 26 = y1 from by rw [hG21, pj_fi_wa]; exact hy1.symm]
            exact pj_X_sub [(0, .ref 171), (1, .int z22), (2, .int z23)] (show List.Nodup [0, 1, 2] by decide) ⟨rfl, rfl, rfl, trivial⟩ (ih G21 iG21 kG21 z22 z23 ⟨by omega, by omega⟩ ⟨by omega, by omega⟩ (hN _ _ (by omega) (by omega)) (by omega) (by omega))
          | false =>
            rw [pj_cF]
            have ub20 := pj_u_ltF b20
            refine pj_X_of (fun r h => pj_R_icF rfl b20 h) ?_
            refine pj_X_of (fun r h => pj_R_to (G, 102, [(3, .int z17), (0, .ref 171), (1, .int v1), (2, .int v2)], [.ref 171, .int v1, .ref 184], 0, 0) 102 2 (fun _ => rfl) h) ?_
            refine pj_X_of (fun r h => pj_T_gr hI rfl rfl rfl h) ?_
            refine pj_X_of (fun r h => pj_R_to (G, 110, [(3, .int z17), (0, .ref 171), (1, .int v1), (2, .int v2)], [.int (z17 - ((Int16.ofInt 1000).toInt32)), .ref 185, .int v1, .ref 184], 0, 0) 110 4 (fun _ => rfl) h) ?_
            obtain ⟨z25, hz25⟩ : ∃ z : Int32, z = z17 - ((Int16.ofInt 1000).toInt32) := ⟨_, rfl⟩
            refine pj_X_eqi hz25.symm ?_
            rw [← hz25, pj_nm_e]
            have fz25_0 : z25.toInt = z17.toInt - ((Int16.ofInt 1000).toInt32).toInt := by rw [hz25]; exact pj_subI (by have := pj_i32 z17; have := pj_i32 ((Int16.ofInt 1000).toInt32); omega) (by have := pj_i32 z17; have := pj_i32 ((Int16.ofInt 1000).toInt32); omega)
            refine pj_X_of (fun r h => pj_T_il hI rfl rfl (by omega) (by omega) h) ?_
            show pj_X _ _ G 111 [(3, .int z17), (0, .ref 171), (1, .int v1), (2, .int v2)] [.int (pj_ai G 185 z25.toInt.toNat), .int v1, .ref 184] _
            obtain ⟨z26, hz26⟩ : ∃ z : Int32, z = pj_ai G 185 z25.toInt.toNat := ⟨_, rfl⟩
            refine pj_X_eqi hz26.symm ?_
            rw [← hz26, pj_nm_e]
            have ez26 : (pj_ai G 185 z25.toInt.toNat).toInt = z26.toInt := by rw [hz26]
            refine pj_X_of (fun r h => pj_R_to (G, 115, [(3, .int z17), (0, .ref 171), (1, .int v1), (2, .int v2)], [.int z26, .int v1, .ref 184], 0, 0) 115 2 (fun _ => rfl) h) ?_
            refine pj_X_of (fun r h => pj_T_is hI rfl rfl (by omega) (by omega) h) ?_
            show pj_X _ _ (pj_wa G 184 v1.toInt.toNat z26) 116 [(3, .int z17), (0, .ref 171), (1, .int v1), (2, .int v2)] [] _
            obtain ⟨G27, hG27⟩ : ∃ H, H = pj_wa G 184 v1.toInt.toNat z26 := ⟨_, rfl⟩
            have iG27 : pj_Inv G27 := by rw [hG27]; exact pj_Inv_wa hI rfl (fun q hq => by cases hq) (fun n hn => by cases hn)
            have kG27 : pj_kpt kc_202x G0 G27 := by rw [hG27]; exact pj_kpt_a hK rfl
            rw [← hG27]
            rw [pj_nm_e]
            refine pj_X_of (fun r h => pj_R_to (G27, 119, [(1, .int (v1 + Int32.ofInt 1)), (3, .int z17), (0, .ref 171), (2, .int v2)], [], 0, 0) 119 2 (fun _ => rfl) h) ?_
            obtain ⟨z28, hz28⟩ : ∃ z : Int32, z = v1 + Int32.ofInt 1 := ⟨_, rfl⟩
            rw [← hz28]
            rw [pj_nm_e]
            have fz28_0 : z28.toInt = v1.toInt + (Int32.ofInt 1).toInt := by rw [hz28]; exact pj_addI (by have := pj_i32 v1; have := pj_i32 (Int32.ofInt 1); omega) (by have := pj_i32 v1; have := pj_i32 (Int32.ofInt 1); omega)
            refine pj_X_of (fun r h => pj_R_to (G27, 122, [(2, .int (v2 + Int32.ofInt 1)), (1, .int z28), (3, .int z17), (0, .ref 171)], [], 0, 0) 122 2 (fun _ => rfl) h) ?_
            obtain ⟨z29, hz29⟩ : ∃ z : Int32, z = v2 + Int32.ofInt 1 := ⟨_, rfl⟩
            rw [← hz29]
            rw [pj_nm_e]
            have fz29_0 : z29.toInt = v2.toInt + (Int32.ofInt 1).toInt := by rw [hz29]; exact pj_addI (by have := pj_i32 v2; have := pj_i32 (Int32.ofInt 1); omega) (by have := pj_i32 v2; have := pj_i32 (Int32.ofInt 1); omega)
            refine pj_X_of (fun r h => pj_R_to (G27, 4, [(2, .int z29), (1, .int z28), (3, .int z17), (0, .ref 171)], [], 0, 0) 4 2 (fun _ => rfl) h) ?_
            have q30 : (pj_fi G27 171 26).toInt = y1.toInt := by rw [show pj_fi G27 171 26 = y1 from by rw [hG27, pj_fi_wa]; exact hy1.symm]
            exact pj_X_sub [(0, .ref 171), (1, .int z28), (2, .int z29)] (show List.Nodup [0, 1, 2] by decide) ⟨rfl, rfl, rfl, trivial⟩ (ih G27 iG27 kG27 z28 z29 ⟨by omega, by omega⟩ ⟨by omega, by omega⟩ (hN _ _ (by omega) (by omega)) (by omega) (by omega))
        | false =>
          rw [pj_cF]
          have ub19 := pj_u_ltF b19
          refine pj_X_of (fun r h => pj_R_icF rfl b19 h) ?_
          refine pj_X_of (fun r h => pj_R_to (G, 56, [(1, .int (v1 + Int32.ofInt (-1))), (3, .int z17), (0, .ref 171), (2, .int v2)], [], 0, 0) 56 2 (fun _ => rfl) h) ?_
          obtain ⟨z31, hz31⟩ : ∃ z : Int32, z = v1 + Int32.ofInt (-1) := ⟨_, rfl⟩
          rw [← hz31]
          rw [pj_nm_e]
          have fz31_0 : z31.toInt = v1.toInt + (Int32.ofInt (-1)).toInt := by rw [hz31]; exact pj_addI (by have := pj_i32 v1; have := pj_i32 (Int32.ofInt (-1)); omega) (by have := pj_i32 v1; have := pj_i32 (Int32.ofInt (-1)); omega)
          refine pj_X_of (fun r h => pj_R_to (G, 57, [(1, .int z31), (3, .int z17), (0, .ref 171), (2, .int v2)], [.ref 171], 0, 0) 57 2 (fun _ => rfl) h) ?_
          refine pj_X_of (fun r h => pj_T_gr hI rfl rfl rfl h) ?_
          refine pj_X_of (fun r h => pj_R_to (G, 63, [(1, .int z31), (3, .int z17), (0, .ref 171), (2, .int v2)], [.int (z31 - (Int32.ofInt 1)), .ref 184], 0, 0) 63 4 (fun _ => rfl) h) ?_
          obtain ⟨z32, hz32⟩ : ∃ z : Int32, z = z31 - (Int32.ofInt 1) := ⟨_, rfl⟩
          refine pj_X_eqi hz32.symm ?_
          rw [← hz32, pj_nm_e]
          have fz32_0 : z32.toInt = z31.toInt - (Int32.ofInt 1).toInt := by rw [hz32]; exact pj_subI (by have := pj_i32 z31; have := pj_i32 (Int32.ofInt 1); omega) (by have := pj_i32 z31; have := pj_i32 (Int32.ofInt 1); omega)
          refine pj_X_of (fun r h => pj_R_to (G, 68, [(1, .int z31), (3, .int z17), (0, .ref 171), (2, .int v2)], [.int (z17 - ((Int16.ofInt 2000).toInt32)), .int z32, .ref 184], 0, 0) 68 4 (fun _ => rfl) h) ?_
          obtain ⟨z33, hz33⟩ : ∃ z : Int32, z = z17 - ((Int16.ofInt 2000).toInt32) := ⟨_, rfl⟩
          refine pj_X_eqi hz33.symm ?_
          rw [← hz33, pj_nm_e]
          have fz33_0 : z33.toInt = z17.toInt - ((Int16.ofInt 2000).toInt32).toInt := by rw [hz33]; exact pj_subI (by have := pj_i32 z17; have := pj_i32 ((Int16.ofInt 2000).toInt32); omega) (by have := pj_i32 z17; have := pj_i32 ((Int16.ofInt 2000).toInt32); omega)
          refine pj_X_of (fun r h => pj_R_to (G, 69, [(1, .int z31), (3, .int z17), (0, .ref 171), (2, .int v2)], [.ref 171, .int z33, .int z32, .ref 184], 0, 0) 69 2 (fun _ => rfl) h) ?_
          refine pj_X_of (fun r h => pj_T_gr hI rfl rfl rfl h) ?_
          refine pj_X_of (fun r h => pj_R_to (G, 75, [(1, .int z31), (3, .int z17), (0, .ref 171), (2, .int v2)], [.int (z31 - (Int32.ofInt 1)), .ref 184, .int z33, .int z32, .ref 184], 0, 0) 75 4 (fun _ => rfl) h) ?_
          refine pj_X_eqi hz32.symm ?_
          refine pj_X_of (fun r h => pj_T_il hI rfl rfl (by omega) (by omega) h) ?_
          show pj_X _ _ G 76 [(1, .int z31), (3, .int z17), (0, .ref 171), (2, .int v2)] [.int (pj_ai G 184 z32.toInt.toNat), .int z33, .int z32, .ref 184] _
          obtain ⟨z34, hz34⟩ : ∃ z : Int32, z = pj_ai G 184 z32.toInt.toNat := ⟨_, rfl⟩
          refine pj_X_eqi hz34.symm ?_
          rw [← hz34, pj_nm_e]
          have ez34 : (pj_ai G 184 z32.toInt.toNat).toInt = z34.toInt := by rw [hz34]
          refine pj_X_of (fun r h => pj_R_to (G, 77, [(1, .int z31), (3, .int z17), (0, .ref 171), (2, .int v2)], [.ref 171, .int z34, .int z33, .int z32, .ref 184], 0, 0) 77 2 (fun _ => rfl) h) ?_
          refine pj_X_of (fun r h => pj_T_gr hI rfl rfl rfl h) ?_
          refine pj_X_of (fun r h => pj_R_to (G, 81, [(1, .int z31), (3, .int z17), (0, .ref 171), (2, .int v2)], [.int z31, .ref 184, .int z34, .int z33, .int z32, .ref 184], 0, 0) 81 2 (fun _ => rfl) h) ?_
          refine pj_X_of (fun r h => pj_T_il hI rfl rfl (by omega) (by omega) h) ?_
          show pj_X _ _ G 82 [(1, .int z31), (3, .int z17), (0, .ref 171), (2, .int v2)] [.int (pj_ai G 184 z31.toInt.toNat), .int z34, .int z33, .int z32, .ref 184] _
          obtain ⟨z35, hz35⟩ : ∃ z : Int32, z = pj_ai G 184 z31.toInt.toNat := ⟨_, rfl⟩
          refine pj_X_eqi hz35.symm ?_
          rw [← hz35, pj_nm_e]
          have ez35 : (pj_ai G 184 z31.toInt.toNat).toInt = z35.toInt := by rw [hz35]
          have q36 : (pj_fi G 171 26).toInt = y1.toInt := by rw [show pj_fi G 171 26 = y1 from hy1.symm]
          refine pj_X_ca (vs := [.int z33, .int z34, .int z35]) rfl (fun _ => rfl) ⟨Nat.le_of_ble_eq_true rfl, Nat.le_of_ble_eq_true rfl, rfl⟩ ⟨rfl, rfl⟩ (pj_Y_up (by decide) (ct_201x G hI z33 z34 z35)) ?_
          rintro _ _ ⟨y37, rfl, rfl, ry37, fy37⟩
          rw [← fy37, pj_nm_e]
          show pj_X _ _ G 85 [(1, .int z31), (3, .int z17), (0, .ref 171), (2, .int v2)] [.int y37, .int z32, .ref 184] _
          refine pj_X_of (fun r h => pj_T_is hI rfl rfl (by omega) (by omega) h) ?_
          show pj_X _ _ (pj_wa G 184 z32.toInt.toNat y37) 86 [(1, .int z31), (3, .int z17), (0, .ref 171), (2, .int v2)] [] _
          obtain ⟨G38, hG38⟩ : ∃ H, H = pj_wa G 184 z32.toInt.toNat y37 := ⟨_, rfl⟩
          have iG38 : pj_Inv G38 := by rw [hG38]; exact pj_Inv_wa hI rfl (fun q hq => by cases hq) (fun n hn => by cases hn)
          have kG38 : pj_kpt kc_202x G0 G38 := by rw [hG38]; exact pj_kpt_a hK rfl
          rw [← hG38]
          rw [pj_nm_e]
          refine pj_X_of (fun r h => pj_R_to (G38, 122, [(2, .int (v2 + Int32.ofInt 1)), (1, .int z31), (3, .int z17), (0, .ref 171)], [], 0, 0) 122 3 (fun _ => rfl) h) ?_
          obtain ⟨z39, hz39⟩ : ∃ z : Int32, z = v2 + Int32.ofInt 1 := ⟨_, rfl⟩
          rw [← hz39]
          rw [pj_nm_e]
          have fz39_0 : z39.toInt = v2.toInt + (Int32.ofInt 1).toInt := by rw [hz39]; exact pj_addI (by have := pj_i32 v2; have := pj_i32 (Int32.ofInt 1); omega) (by have := pj_i32 v2; have := pj_i32 (Int32.ofInt 1); omega)
          refine pj_X_of (fun r h => pj_R_to (G38, 4, [(2, .int z39), (1, .int z31), (3, .int z17), (0, .ref 171)], [], 0, 0) 4 2 (fun _ => rfl) h) ?_
          have q40 : (pj_fi G38 171 26).toInt = y1.toInt := by rw [show pj_fi G38 171 26 = y1 from by rw [hG38, pj_fi_wa]; exact hy1.symm]
          exact pj_X_sub [(0, .ref 171), (1, .int z31), (2, .int z39)] (show List.Nodup [0, 1, 2] by decide) ⟨rfl, rfl, rfl, trivial⟩ (ih G38 iG38 kG38 z31 z39 ⟨by omega, by omega⟩ ⟨by omega, by omega⟩ (hN _ _ (by omega) (by omega)) (by omega) (by omega))
      | false =>
        rw [pj_cF]
        have ub18 := pj_u_neF b18
        refine pj_X_of (fun r h => pj_R_icF rfl b18 h) ?_
        refine pj_X_of (fun r h => pj_R_to (G, 27, [(3, .int z17), (0, .ref 171), (1, .int v1), (2, .int v2)], [.ref 171], 0, 0) 27 2 (fun _ => rfl) h) ?_
        refine pj_X_of (fun r h => pj_T_gr hI rfl rfl rfl h) ?_
        refine pj_X_of (fun r h => pj_R_to (G, 33, [(3, .int z17), (0, .ref 171), (1, .int v1), (2, .int v2)], [.int (v1 - (Int32.ofInt 1)), .ref 184], 0, 0) 33 4 (fun _ => rfl) h) ?_
        obtain ⟨z41, hz41⟩ : ∃ z : Int32, z = v1 - (Int32.ofInt 1) := ⟨_, rfl⟩
        refine pj_X_eqi hz41.symm ?_
        rw [← hz41, pj_nm_e]
        have fz41_0 : z41.toInt = v1.toInt - (Int32.ofInt 1).toInt := by rw [hz41]; exact pj_subI (by have := pj_i32 v1; have := pj_i32 (Int32.ofInt 1); omega) (by have := pj_i32 v1; have := pj_i32 (Int32.ofInt 1); omega)
        refine pj_X_of (fun r h => pj_R_to (G, 34, [(3, .int z17), (0, .ref 171), (1, .int v1), (2, .int v2)], [.ref 171, .int z41, .ref 184], 0, 0) 34 2 (fun _ => rfl) h) ?_
        refine pj_X_of (fun r h => pj_T_gr hI rfl rfl rfl h) ?_
        refine pj_X_of (fun r h => pj_R_to (G, 40, [(3, .int z17), (0, .ref 171), (1, .int v1), (2, .int v2)], [.int (v1 - (Int32.ofInt 1)), .ref 184, .int z41, .ref 184], 0, 0) 40 4 (fun _ => rfl) h) ?_
        refine pj_X_eqi hz41.symm ?_
        refine pj_X_of (fun r h => pj_T_il hI rfl rfl (by omega) (by omega) h) ?_
        show pj_X _ _ G 41 [(3, .int z17), (0, .ref 171), (1, .int v1), (2, .int v2)] [.int (pj_ai G 184 z41.toInt.toNat), .int z41, .ref 184] _
        obtain ⟨z42, hz42⟩ : ∃ z : Int32, z = pj_ai G 184 z41.toInt.toNat := ⟨_, rfl⟩
        refine pj_X_eqi hz42.symm ?_
        rw [← hz42, pj_nm_e]
        have ez42 : (pj_ai G 184 z41.toInt.toNat).toInt = z42.toInt := by rw [hz42]
        refine pj_X_of (fun r h => pj_R_to (G, 42, [(3, .int z17), (0, .ref 171), (1, .int v1), (2, .int v2)], [.int (-z42), .int z41, .ref 184], 0, 0) 42 2 (fun _ => rfl) h) ?_
        obtain ⟨z43, hz43⟩ : ∃ z : Int32, z = -z42 := ⟨_, rfl⟩
        refine pj_X_eqi hz43.symm ?_
        rw [← hz43, pj_nm_e]
        refine pj_X_of (fun r h => pj_T_is hI rfl rfl (by omega) (by omega) h) ?_
        show pj_X _ _ (pj_wa G 184 z41.toInt.toNat z43) 43 [(3, .int z17), (0, .ref 171), (1, .int v1), (2, .int v2)] [] _
        obtain ⟨G44, hG44⟩ : ∃ H, H = pj_wa G 184 z41.toInt.toNat z43 := ⟨_, rfl⟩
        have iG44 : pj_Inv G44 := by rw [hG44]; exact pj_Inv_wa hI rfl (fun q hq => by cases hq) (fun n hn => by cases hn)
        have kG44 : pj_kpt kc_202x G0 G44 := by rw [hG44]; exact pj_kpt_a hK rfl
        rw [← hG44]
        rw [pj_nm_e]
        refine pj_X_of (fun r h => pj_R_to (G44, 122, [(2, .int (v2 + Int32.ofInt 1)), (3, .int z17), (0, .ref 171), (1, .int v1)], [], 0, 0) 122 3 (fun _ => rfl) h) ?_
        obtain ⟨z45, hz45⟩ : ∃ z : Int32, z = v2 + Int32.ofInt 1 := ⟨_, rfl⟩
        rw [← hz45]
        rw [pj_nm_e]
        have fz45_0 : z45.toInt = v2.toInt + (Int32.ofInt 1).toInt := by rw [hz45]; exact pj_addI (by have := pj_i32 v2; have := pj_i32 (Int32.ofInt 1); omega) (by have := pj_i32 v2; have := pj_i32 (Int32.ofInt 1); omega)
        refine pj_X_of (fun r h => pj_R_to (G44, 4, [(2, .int z45), (3, .int z17), (0, .ref 171), (1, .int v1)], [], 0, 0) 4 2 (fun _ => rfl) h) ?_
        have q46 : (pj_fi G44 171 26).toInt = y1.toInt := by rw [show pj_fi G44 171 26 = y1 from by rw [hG44, pj_fi_wa]; exact hy1.symm]
        exact pj_X_sub [(0, .ref 171), (1, .int v1), (2, .int z45)] (show List.Nodup [0, 1, 2] by decide) ⟨rfl, rfl, rfl, trivial⟩ (ih G44 iG44 kG44 v1 z45 ⟨by omega, by omega⟩ ⟨by omega, by omega⟩ (hN _ _ (by omega) (by omega)) (by omega) (by omega))
theorem ct_202x (G0 : pj_G) (hI : pj_Inv G0) (p0_ : pj_RI G0) : pj_Y 3 202 [.ref 171] G0 (fun v' G' => ∃ y : Int32, v' = some (.int y) ∧ pj_Inv G' ∧ pj_kpt kc_202x G0 G' ∧ ((1 : Int) ≤ y.toInt ∧ y.toInt ≤ 99) ∧ ((y, G') = F_203x G0)) := by
  have c0_ : ((Int16.ofInt 1000).toInt32).toInt = 1000 := by decide
  have c1_ : ((Int16.ofInt 2000).toInt32).toInt = 2000 := by decide
  have c2_ : ((Int16.ofInt 3000).toInt32).toInt = 3000 := by decide
  have c3_ : ((Int8.ofInt 9).toInt32).toInt = 9 := by decide
  have c4_ : ((Int8.ofInt 99).toInt32).toInt = 99 := by decide
  have c5_ : (Int32.ofInt (-1)).toInt = -1 := by decide
  have c6_ : (Int32.ofInt 0).toInt = 0 := by decide
  have c7_ : (Int32.ofInt 1).toInt = 1 := by decide
  have c8_ : (Int32.ofInt 2).toInt = 2 := by decide
  refine pj_Y_X (M := pj_m202) rfl rfl (Nat.le_of_ble_eq_true rfl) ?_
  have hK : pj_kpt kc_202x G0 G0 := pj_kpt_r _ _
  show pj_X _ _ G0 0 [(0, .ref 171)] [] _
  rw [F_203x_e]
  obtain ⟨y47, hy47⟩ : ∃ z : Int32, z = pj_fi G0 171 26 := ⟨_, rfl⟩
  have ey47 : (pj_fi G0 171 26).toInt = y47.toInt := by rw [hy47]
  have ry47 : (0 : Int) ≤ y47.toInt ∧ y47.toInt ≤ 80 := by rw [hy47]; exact hI.2.1 171 26 (0, 80) rfl
  refine pj_X_of (fun r h => pj_R_to (G0, 4, [(2, .int (Int32.ofInt 0)), (1, .int (Int32.ofInt 0)), (0, .ref 171)], [], 0, 0) 4 5 (fun _ => rfl) h) ?_
  have q48 : (pj_fi G0 171 26).toInt = y47.toInt := by rw [show pj_fi G0 171 26 = y47 from hy47.symm]
  exact pj_X_sub [(0, .ref 171), (1, .int (Int32.ofInt 0)), (2, .int (Int32.ofInt 0))] (show List.Nodup [0, 1, 2] by decide) ⟨rfl, rfl, rfl, trivial⟩ ((lp_ct_202x G0 hI   p0_ 81) G0 hI hK (Int32.ofInt 0) (Int32.ofInt 0) ⟨by omega, by omega⟩ ⟨by omega, by omega⟩ (pj_vq_0 p0_) (by omega) (by omega))
theorem fr_203x (G0 : pj_G) (hI : pj_Inv G0) (p0_ : pj_RI G0) : pj_Inv (F_203x G0).2 ∧ pj_kpt kc_202x G0 (F_203x G0).2 ∧ ((1 : Int) ≤ (F_203x G0).1.toInt ∧ (F_203x G0).1.toInt ≤ 99) := by
  obtain ⟨v, G', -, y, -, i, j, r, e⟩ := ct_202x G0 hI p0_
  rw [← e]
  exact ⟨i, j, r⟩
noncomputable def F_204x (G0 : pj_G) (c : Int32) : Int32 := cond (pj_c1 .ge c 0) (pj_nm (pj_ai G0 175 c.toInt.toNat) (fun z2 => z2)) (Int32.ofInt 0)
theorem F_204x_e (G0 : pj_G) (c : Int32) : F_204x G0 c = cond (pj_c1 .ge c 0) (pj_nm (pj_ai G0 175 c.toInt.toNat) (fun z2 => z2)) (Int32.ofInt 0) := rfl
theorem ct_203x (G0 : pj_G) (hI : pj_Inv G0) (c : Int32) (rc : (-2147483648 : Int) ≤ c.toInt ∧ c.toInt ≤ 9) : pj_Y 1 203 [.ref 171, .int c] G0 (fun v' G' => ∃ y : Int32, v' = some (.int y) ∧ G0 = G' ∧ ((0 : Int) ≤ y.toInt ∧ y.toInt ≤ 99) ∧ (y = F_204x G0 c)) := by
  have c0_ : (Int32.ofInt 0).toInt = 0 := by decide
  refine pj_Y_X (M := pj_m203) rfl rfl (Nat.le_of_ble_eq_true rfl) ?_
  have hK : pj_kpt ([], [], []) G0 G0 := pj_kpt_r _ _
  show pj_X _ _ G0 0 [(0, .ref 171), (1, .int c)] [] _
  rw [F_204x_e]
  refine pj_X_of (fun r h => pj_R_to (G0, 1, [(0, .ref 171), (1, .int c)], [.int c], 0, 0) 1 2 (fun _ => rfl) h) ?_
  cases b1 : pj_c1 .ge c 0 with
  | true =>
    rw [pj_cT]
    have ub1 := pj_u0_geT b1
    refine pj_X_of (fun r h => pj_R_ifT 8 rfl rfl b1 h) ?_
    refine pj_X_of (fun r h => pj_R_to (G0, 9, [(0, .ref 171), (1, .int c)], [.ref 171], 0, 0) 9 2 (fun _ => rfl) h) ?_
    refine pj_X_of (fun r h => pj_T_gr hI rfl rfl rfl h) ?_
    refine pj_X_of (fun r h => pj_R_to (G0, 13, [(0, .ref 171), (1, .int c)], [.int c, .ref 175], 0, 0) 13 2 (fun _ => rfl) h) ?_
    refine pj_X_of (fun r h => pj_T_il hI rfl rfl (by omega) (by omega) h) ?_
    show pj_X _ _ G0 14 [(0, .ref 171), (1, .int c)] [.int (pj_ai G0 175 c.toInt.toNat)] _
    obtain ⟨z2, hz2⟩ : ∃ z : Int32, z = pj_ai G0 175 c.toInt.toNat := ⟨_, rfl⟩
    refine pj_X_eqi hz2.symm ?_
    rw [← hz2, pj_nm_e]
    have ez2 : (pj_ai G0 175 c.toInt.toNat).toInt = z2.toInt := by rw [hz2]
    have fz2_0 : (0 : Int) ≤ z2.toInt ∧ z2.toInt ≤ 99 ∧ (z2.toInt ≤ 0 ∨ 0 ≤ z2.toInt) := by rw [hz2]; exact hI.2.2.1 175 (10, 0, 99, 0, 0) rfl _ (by show _ < 10; omega)
    exact pj_X_rt rfl rfl ⟨_, rfl, rfl, ⟨by omega, by omega⟩, rfl⟩
  | false =>
    rw [pj_cF]
    have ub1 := pj_u0_geF b1
    refine pj_X_of (fun r h => pj_R_ifF rfl b1 h) ?_
    refine pj_X_of (fun r h => pj_R_to (G0, 14, [(0, .ref 171), (1, .int c)], [.int (Int32.ofInt 0)], 0, 0) 14 3 (fun _ => rfl) h) ?_
    exact pj_X_rt rfl rfl ⟨_, rfl, rfl, ⟨by omega, by omega⟩, rfl⟩
theorem fr_204x (G0 : pj_G) (hI : pj_Inv G0) (c : Int32) (rc : (-2147483648 : Int) ≤ c.toInt ∧ c.toInt ≤ 9) : ((0 : Int) ≤ (F_204x G0 c).toInt ∧ (F_204x G0 c).toInt ≤ 99) := by
  obtain ⟨v, G', -, y, -, rfl, r, e⟩ := ct_203x G0 hI c rc
  rw [← e]
  exact r
def kc_204x : pj_KT := ([], [184, 185], [184, 185])
noncomputable def F_205x (G0 : pj_G) (b : Int32) (c : Int32) : Int32 × pj_G := pj_nm ((Int32.ofInt 4) * b) (fun z1 => pj_nm (z1 + (Int32.ofInt 0)) (fun z2 => pj_nm (pj_ai G0 179 z2.toInt.toNat) (fun z3 => pj_nm (F_204x G0 z3) (fun y4 => pj_nm (F_204x G0 c) (fun y5 => pj_nm (y4 - y5) (fun z6 => pj_nm ((if 0 ≤ z6 then z6 else 0 - z6)) (fun z7 => pj_nm (pj_wa G0 185 (Int32.ofInt 0).toInt.toNat z7) (fun G8 => cond (pj_c1 .ge y5 y4) (pj_nm (F_173x G8 (Int32.ofInt 0)) (fun y10 => pj_nm (pj_wa G8 185 (Int32.ofInt 1).toInt.toNat y10) (fun G11 => pj_nm (pj_ai G11 177 b.toInt.toNat) (fun z12 => pj_nm (pj_wa G11 185 (Int32.ofInt 2).toInt.toNat z12) (fun G13 => pj_nm (z1 + (Int32.ofInt 3)) (fun z14 => pj_nm (pj_ai G13 179 z14.toInt.toNat) (fun z15 => pj_nm (pj_wa G13 185 (Int32.ofInt 3).toInt.toNat z15) (fun G16 => cond (pj_c1 .ge c 0) (pj_nm (pj_ai G16 176 c.toInt.toNat) (fun z18 => pj_nm (pj_wa G16 185 (Int32.ofInt 4).toInt.toNat z18) (fun G19 => pj_nm (pj_wa G19 185 (Int32.ofInt 5).toInt.toNat b) (fun G20 => pj_nm (pj_ai G20 179 ((Int8.ofInt 30).toInt32).toInt.toNat) (fun z21 => pj_nm (z21 - z21 / ((Int8.ofInt 24).toInt32) * ((Int8.ofInt 24).toInt32)) (fun z22 => pj_nm (pj_wa G20 185 ((Int8.ofInt 6).toInt32).toInt.toNat z22) (fun G23 => pj_bd (F_203x G23) (fun y24 G25 => (y24, G25))))))))) (pj_nm (pj_wa G16 185 (Int32.ofInt 4).toInt.toNat (Int32.ofInt 0)) (fun G26 => pj_nm (pj_wa G26 185 (Int32.ofInt 5).toInt.toNat b) (fun G27 => pj_nm (pj_ai G27 179 ((Int8.ofInt 30).toInt32).toInt.toNat) (fun z28 => pj_nm (z28 - z28 / ((Int8.ofInt 24).toInt32) * ((Int8.ofInt 24).toInt32)) (fun z29 => pj_nm (pj_wa G27 185 ((Int8.ofInt 6).toInt32).toInt.toNat z29) (fun G30 => pj_bd (F_203x G30) (fun y31 G32 => (y31, G32)))))))))))))))) (pj_nm (F_173x G8 (Int32.ofInt 1)) (fun y33 => pj_nm (pj_wa G8 185 (Int32.ofInt 1).toInt.toNat y33) (fun G34 => pj_nm (pj_ai G34 177 b.toInt.toNat) (fun z35 => pj_nm (pj_wa G34 185 (Int32.ofInt 2).toInt.toNat z35) (fun G36 => pj_nm (z1 + (Int32.ofInt 3)) (fun z37 => pj_nm (pj_ai G36 179 z37.toInt.toNat) (fun z38 => pj_nm (pj_wa G36 185 (Int32.ofInt 3).toInt.toNat z38) (fun G39 => cond (pj_c1 .ge c 0) (pj_nm (pj_ai G39 176 c.toInt.toNat) (fun z41 => pj_nm (pj_wa G39 185 (Int32.ofInt 4).toInt.toNat z41) (fun G42 => pj_nm (pj_wa G42 185 (Int32.ofInt 5).toInt.toNat b) (fun G43 => pj_nm (pj_ai G43 179 ((Int8.ofInt 30).toInt32).toInt.toNat) (fun z44 => pj_nm (z44 - z44 / ((Int8.ofInt 24).toInt32) * ((Int8.ofInt 24).toInt32)) (fun z45 => pj_nm (pj_wa G43 185 ((Int8.ofInt 6).toInt32).toInt.toNat z45) (fun G46 => pj_bd (F_203x G46) (fun y47 G48 => (y47, G48))))))))) (pj_nm (pj_wa G39 185 (Int32.ofInt 4).toInt.toNat (Int32.ofInt 0)) (fun G49 => pj_nm (pj_wa G49 185 (Int32.ofInt 5).toInt.toNat b) (fun G50 => pj_nm (pj_ai G50 179 ((Int8.ofInt 30).toInt32).toInt.toNat) (fun z51 => pj_nm (z51 - z51 / ((Int8.ofInt 24).toInt32) * ((Int8.ofInt 24).toInt32)) (fun z52 => pj_nm (pj_wa G50 185 ((Int8.ofInt 6).toInt32).toInt.toNat z52) (fun G53 => pj_bd (F_203x G53) (fun y54 G55 => (y54, G55))))))))))))))))))))))))
theorem F_205x_e (G0 : pj_G) (b : Int32) (c : Int32) : F_205x G0 b c = pj_nm ((Int32.ofInt 4) * b) (fun z1 => pj_nm (z1 + (Int32.ofInt 0)) (fun z2 => pj_nm (pj_ai G0 179 z2.toInt.toNat) (fun z3 => pj_nm (F_204x G0 z3) (fun y4 => pj_nm (F_204x G0 c) (fun y5 => pj_nm (y4 - y5) (fun z6 => pj_nm ((if 0 ≤ z6 then z6 else 0 - z6)) (fun z7 => pj_nm (pj_wa G0 185 (Int32.ofInt 0).toInt.toNat z7) (fun G8 => cond (pj_c1 .ge y5 y4) (pj_nm (F_173x G8 (Int32.ofInt 0)) (fun y10 => pj_nm (pj_wa G8 185 (Int32.ofInt 1).toInt.toNat y10) (fun G11 => pj_nm (pj_ai G11 177 b.toInt.toNat) (fun z12 => pj_nm (pj_wa G11 185 (Int32.ofInt 2).toInt.toNat z12) (fun G13 => pj_nm (z1 + (Int32.ofInt 3)) (fun z14 => pj_nm (pj_ai G13 179 z14.toInt.toNat) (fun z15 => pj_nm (pj_wa G13 185 (Int32.ofInt 3).toInt.toNat z15) (fun G16 => cond (pj_c1 .ge c 0) (pj_nm (pj_ai G16 176 c.toInt.toNat) (fun z18 => pj_nm (pj_wa G16 185 (Int32.ofInt 4).toInt.toNat z18) (fun G19 => pj_nm (pj_wa G19 185 (Int32.ofInt 5).toInt.toNat b) (fun G20 => pj_nm (pj_ai G20 179 ((Int8.ofInt 30).toInt32).toInt.toNat) (fun z21 => pj_nm (z21 - z21 / ((Int8.ofInt 24).toInt32) * ((Int8.ofInt 24).toInt32)) (fun z22 => pj_nm (pj_wa G20 185 ((Int8.ofInt 6).toInt32).toInt.toNat z22) (fun G23 => pj_bd (F_203x G23) (fun y24 G25 => (y24, G25))))))))) (pj_nm (pj_wa G16 185 (Int32.ofInt 4).toInt.toNat (Int32.ofInt 0)) (fun G26 => pj_nm (pj_wa G26 185 (Int32.ofInt 5).toInt.toNat b) (fun G27 => pj_nm (pj_ai G27 179 ((Int8.ofInt 30).toInt32).toInt.toNat) (fun z28 => pj_nm (z28 - z28 / ((Int8.ofInt 24).toInt32) * ((Int8.ofInt 24).toInt32)) (fun z29 => pj_nm (pj_wa G27 185 ((Int8.ofInt 6).toInt32).toInt.toNat z29) (fun G30 => pj_bd (F_203x G30) (fun y31 G32 => (y31, G32)))))))))))))))) (pj_nm (F_173x G8 (Int32.ofInt 1)) (fun y33 => pj_nm (pj_wa G8 185 (Int32.ofInt 1).toInt.toNat y33) (fun G34 => pj_nm (pj_ai G34 177 b.toInt.toNat) (fun z35 => pj_nm (pj_wa G34 185 (Int32.ofInt 2).toInt.toNat z35) (fun G36 => pj_nm (z1 + (Int32.ofInt 3)) (fun z37 => pj_nm (pj_ai G36 179 z37.toInt.toNat) (fun z38 => pj_nm (pj_wa G36 185 (Int32.ofInt 3).toInt.toNat z38) (fun G39 => cond (pj_c1 .ge c 0) (pj_nm (pj_ai G39 176 c.toInt.toNat) (fun z41 => pj_nm (pj_wa G39 185 (Int32.ofInt 4).toInt.toNat z41) (fun G42 => pj_nm (pj_wa G42 185 (Int32.ofInt 5).toInt.toNat b) (fun G43 => pj_nm (pj_ai G43 179 ((Int8.ofInt 30).toInt32).toInt.toNat) (fun z44 => pj_nm (z44 - z44 / ((Int8.ofInt 24).toInt32) * ((Int8.ofInt 24).toInt32)) (fun z45 => pj_nm (pj_wa G43 185 ((Int8.ofInt 6).toInt32).toInt.toNat z45) (fun G46 => pj_bd (F_203x G46) (fun y47 G48 => (y47, G48))))))))) (pj_nm (pj_wa G39 185 (Int32.ofInt 4).toInt.toNat (Int32.ofInt 0)) (fun G49 => pj_nm (pj_wa G49 185 (Int32.ofInt 5).toInt.toNat b) (fun G50 => pj_nm (pj_ai G50 179 ((Int8.ofInt 30).toInt32).toInt.toNat) (fun z51 => pj_nm (z51 - z51 / ((Int8.ofInt 24).toInt32) * ((Int8.ofInt 24).toInt32)) (fun z52 => pj_nm (pj_wa G50 185 ((Int8.ofInt 6).toInt32).toInt.toNat z52) (fun G53 => pj_bd (F_203x G53) (fun y54 G55 => (y54, G55)))))))))))))))))))))))) := rfl
theorem ct_204x (G0 : pj_G) (hI : pj_Inv G0) (b : Int32) (c : Int32) (rb : (0 : Int) ≤ b.toInt ∧ b.toInt ≤ 5) (rc : (-1 : Int) ≤ c.toInt ∧ c.toInt ≤ 9) (p0_ : pj_RI G0) : pj_Y 5 204 [.ref 171, .int b, .int c] G0 (fun v' G' => ∃ y : Int32, v' = some (.int y) ∧ pj_Inv G' ∧ pj_kpt kc_204x G0 G' ∧ ((1 : Int) ≤ y.toInt ∧ y.toInt ≤ 99) ∧ ((y, G') = F_205x G0 b c)) := by
  have c0_ : ((Int8.ofInt 24).toInt32).toInt = 24 := by decide
  have c1_ : ((Int8.ofInt 30).toInt32).toInt = 30 := by decide
  have c2_ : ((Int8.ofInt 6).toInt32).toInt = 6 := by decide
  have c3_ : (Int32.ofInt 0).toInt = 0 := by decide
  have c4_ : (Int32.ofInt 1).toInt = 1 := by decide
  have c5_ : (Int32.ofInt 2).toInt = 2 := by decide
  have c6_ : (Int32.ofInt 3).toInt = 3 := by decide
  have c7_ : (Int32.ofInt 4).toInt = 4 := by decide
  have c8_ : (Int32.ofInt 5).toInt = 5 := by decide
  refine pj_Y_X (M := pj_m204) rfl rfl (Nat.le_of_ble_eq_true rfl) ?_
  have hK : pj_kpt kc_204x G0 G0 := pj_kpt_r _ _
  show pj_X _ _ G0 0 [(0, .ref 171), (1, .int b), (2, .int c)] [] _
  rw [F_205x_e]
  refine pj_X_of (fun r h => pj_R_to (G0, 2, [(0, .ref 171), (1, .int b), (2, .int c)], [.ref 171, .ref 171], 0, 0) 2 3 (fun _ => rfl) h) ?_
  refine pj_X_of (fun r h => pj_T_gr hI rfl rfl rfl h) ?_
  refine pj_X_of (fun r h => pj_R_to (G0, 8, [(0, .ref 171), (1, .int b), (2, .int c)], [.int ((Int32.ofInt 4) * b), .ref 179, .ref 171], 0, 0) 8 4 (fun _ => rfl) h) ?_
  obtain ⟨z1, hz1⟩ : ∃ z : Int32, z = (Int32.ofInt 4) * b := ⟨_, rfl⟩
  refine pj_X_eqi hz1.symm ?_
  rw [← hz1, pj_nm_e]
  have fz1_0 : z1.toInt = 4 * b.toInt := by rw [hz1]; exact pj_mulL (by decide) (by omega) (by omega)
  refine pj_X_of (fun r h => pj_R_to (G0, 10, [(0, .ref 171), (1, .int b), (2, .int c)], [.int (z1 + (Int32.ofInt 0)), .ref 179, .ref 171], 0, 0) 10 3 (fun _ => rfl) h) ?_
  obtain ⟨z2, hz2⟩ : ∃ z : Int32, z = z1 + (Int32.ofInt 0) := ⟨_, rfl⟩
  refine pj_X_eqi hz2.symm ?_
  rw [← hz2, pj_nm_e]
  have fz2_0 : z2.toInt = z1.toInt + (Int32.ofInt 0).toInt := by rw [hz2]; exact pj_addI (by have := pj_i32 z1; have := pj_i32 (Int32.ofInt 0); omega) (by have := pj_i32 z1; have := pj_i32 (Int32.ofInt 0); omega)
  refine pj_X_of (fun r h => pj_T_il hI rfl rfl (by omega) (by omega) h) ?_
  show pj_X _ _ G0 11 [(0, .ref 171), (1, .int b), (2, .int c)] [.int (pj_ai G0 179 z2.toInt.toNat), .ref 171] _
  obtain ⟨z3, hz3⟩ : ∃ z : Int32, z = pj_ai G0 179 z2.toInt.toNat := ⟨_, rfl⟩
  refine pj_X_eqi hz3.symm ?_
  rw [← hz3, pj_nm_e]
  have ez3 : (pj_ai G0 179 z2.toInt.toNat).toInt = z3.toInt := by rw [hz3]
  have fz3_0 : -1 ≤ z3.toInt ∧ z3.toInt ≤ 9 := by rw [hz3]; exact ((hI.2.2.2 179 32 rfl _ (by show _ < 32; omega)).1 (by omega)).1 (by omega)
  refine pj_X_ca (vs := [.ref 171, .int z3]) rfl (fun _ => rfl) ⟨Nat.le_of_ble_eq_true rfl, Nat.le_of_ble_eq_true rfl, pj_T_rcv hI rfl⟩ ⟨rfl, rfl⟩ (pj_Y_up (by decide) (ct_203x G0 hI z3 ⟨by omega, by omega⟩)) ?_
  rintro _ _ ⟨y4, rfl, rfl, ry4, fy4⟩
  rw [← fy4, pj_nm_e]
  show pj_X _ _ G0 14 [(0, .ref 171), (1, .int b), (2, .int c)] [.int y4] _
  refine pj_X_of (fun r h => pj_R_to (G0, 17, [(3, .int y4), (0, .ref 171), (1, .int b), (2, .int c)], [.int c, .ref 171], 0, 0) 17 4 (fun _ => rfl) h) ?_
  refine pj_X_ca (vs := [.ref 171, .int c]) rfl (fun _ => rfl) ⟨Nat.le_of_ble_eq_true rfl, Nat.le_of_ble_eq_true rfl, pj_T_rcv hI rfl⟩ ⟨rfl, rfl⟩ (pj_Y_up (by decide) (ct_203x G0 hI c ⟨by omega, by omega⟩)) ?_
  rintro _ _ ⟨y5, rfl, rfl, ry5, fy5⟩
  rw [← fy5, pj_nm_e]
  show pj_X _ _ G0 20 [(3, .int y4), (0, .ref 171), (1, .int b), (2, .int c)] [.int y5] _
  refine pj_X_of (fun r h => pj_R_to (G0, 23, [(4, .int y5), (3, .int y4), (0, .ref 171), (1, .int b), (2, .int c)], [.ref 171], 0, 0) 23 3 (fun _ => rfl) h) ?_
  refine pj_X_of (fun r h => pj_T_gr hI rfl rfl rfl h) ?_
  refine pj_X_of (fun r h => pj_R_to (G0, 31, [(4, .int y5), (3, .int y4), (0, .ref 171), (1, .int b), (2, .int c)], [.int (y4 - y5), .int (Int32.ofInt 0), .ref 185], 0, 0) 31 5 (fun _ => rfl) h) ?_
  obtain ⟨z6, hz6⟩ : ∃ z : Int32, z = y4 - y5 := ⟨_, rfl⟩
  refine pj_X_eqi hz6.symm ?_
  rw [← hz6, pj_nm_e]
  have fz6_0 : z6.toInt = y4.toInt - y5.toInt := by rw [hz6]; exact pj_subI (by have := pj_i32 y4; have := pj_i32 y5; omega) (by have := pj_i32 y4; have := pj_i32 y5; omega)
  refine pj_X_of (fun r h => pj_R_ab (v := (if 0 ≤ z6 then z6 else 0 - z6)) rfl rfl rfl (Nat.le_of_ble_eq_true rfl) h) ?_
  show pj_X _ _ G0 34 [(4, .int y5), (3, .int y4), (0, .ref 171), (1, .int b), (2, .int c)] [.int (if 0 ≤ z6 then z6 else 0 - z6), .int (Int32.ofInt 0), .ref 185] _
  obtain ⟨z7, hz7⟩ : ∃ z : Int32, z = (if 0 ≤ z6 then z6 else 0 - z6) := ⟨_, rfl⟩
  refine pj_X_eqi hz7.symm ?_
  rw [← hz7, pj_nm_e]
  refine pj_X_of (fun r h => pj_T_is hI rfl rfl (by omega) (by omega) h) ?_
  show pj_X _ _ (pj_wa G0 185 (Int32.ofInt 0).toInt.toNat z7) 35 [(4, .int y5), (3, .int y4), (0, .ref 171), (1, .int b), (2, .int c)] [] _
  obtain ⟨G8, hG8⟩ : ∃ H, H = pj_wa G0 185 (Int32.ofInt 0).toInt.toNat z7 := ⟨_, rfl⟩
  have iG8 : pj_Inv G8 := by rw [hG8]; exact pj_Inv_wa hI rfl (fun q hq => by cases hq) (fun n hn => by cases hn)
  have kG8 : pj_kpt kc_204x G0 G8 := by rw [hG8]; exact pj_kpt_a hK rfl
  rw [← hG8]
  rw [pj_nm_e]
  refine pj_X_of (fun r h => pj_R_to (G8, 36, [(4, .int y5), (3, .int y4), (0, .ref 171), (1, .int b), (2, .int c)], [.ref 171], 0, 0) 36 2 (fun _ => rfl) h) ?_
  refine pj_X_of (fun r h => pj_T_gr iG8 rfl rfl rfl h) ?_
  refine pj_X_of (fun r h => pj_R_to (G8, 43, [(4, .int y5), (3, .int y4), (0, .ref 171), (1, .int b), (2, .int c)], [.int y4, .int y5, .int (Int32.ofInt 1), .ref 185], 0, 0) 43 4 (fun _ => rfl) h) ?_
  cases b9 : pj_c1 .ge y5 y4 with
  | true =>
    rw [pj_cT]
    have ub9 := pj_u_geT b9
    refine pj_X_of (fun r h => pj_R_icT 50 rfl rfl b9 h) ?_
    refine pj_X_of (fun r h => pj_R_to (G8, 51, [(4, .int y5), (3, .int y4), (0, .ref 171), (1, .int b), (2, .int c)], [.int (Int32.ofInt 0), .int (Int32.ofInt 1), .ref 185], 0, 0) 51 2 (fun _ => rfl) h) ?_
    refine pj_X_ca (vs := [.int (Int32.ofInt 0)]) rfl (fun _ => rfl) ⟨Nat.le_of_ble_eq_true rfl, Nat.le_of_ble_eq_true rfl, rfl⟩ ⟨rfl, rfl⟩ (pj_Y_up (by decide) (ct_172x G8 iG8 (Int32.ofInt 0) ⟨by omega, by omega⟩)) ?_
    rintro _ _ ⟨y10, rfl, rfl, ry10, ey10, fy10⟩
    rw [← fy10, pj_nm_e]
    show pj_X _ _ G8 54 [(4, .int y5), (3, .int y4), (0, .ref 171), (1, .int b), (2, .int c)] [.int y10, .int (Int32.ofInt 1), .ref 185] _
    refine pj_X_of (fun r h => pj_T_is iG8 rfl rfl (by omega) (by omega) h) ?_
    show pj_X _ _ (pj_wa G8 185 (Int32.ofInt 1).toInt.toNat y10) 55 [(4, .int y5), (3, .int y4), (0, .ref 171), (1, .int b), (2, .int c)] [] _
    obtain ⟨G11, hG11⟩ : ∃ H, H = pj_wa G8 185 (Int32.ofInt 1).toInt.toNat y10 := ⟨_, rfl⟩
    have iG11 : pj_Inv G11 := by rw [hG11]; exact pj_Inv_wa iG8 rfl (fun q hq => by cases hq) (fun n hn => by cases hn)
    have kG11 : pj_kpt kc_204x G0 G11 := by rw [hG11]; exact pj_kpt_a kG8 rfl
    rw [← hG11]
    rw [pj_nm_e]
    refine pj_X_of (fun r h => pj_R_to (G11, 56, [(4, .int y5), (3, .int y4), (0, .ref 171), (1, .int b), (2, .int c)], [.ref 171], 0, 0) 56 2 (fun _ => rfl) h) ?_
    refine pj_X_of (fun r h => pj_T_gr iG11 rfl rfl rfl h) ?_
    refine pj_X_of (fun r h => pj_R_to (G11, 61, [(4, .int y5), (3, .int y4), (0, .ref 171), (1, .int b), (2, .int c)], [.ref 171, .int (Int32.ofInt 2), .ref 185], 0, 0) 61 3 (fun _ => rfl) h) ?_
    refine pj_X_of (fun r h => pj_T_gr iG11 rfl rfl rfl h) ?_
    refine pj_X_of (fun r h => pj_R_to (G11, 65, [(4, .int y5), (3, .int y4), (0, .ref 171), (1, .int b), (2, .int c)], [.int b, .ref 177, .int (Int32.ofInt 2), .ref 185], 0, 0) 65 2 (fun _ => rfl) h) ?_
    refine pj_X_of (fun r h => pj_T_il iG11 rfl rfl (by omega) (by omega) h) ?_
    show pj_X _ _ G11 66 [(4, .int y5), (3, .int y4), (0, .ref 171), (1, .int b), (2, .int c)] [.int (pj_ai G11 177 b.toInt.toNat), .int (Int32.ofInt 2), .ref 185] _
    obtain ⟨z12, hz12⟩ : ∃ z : Int32, z = pj_ai G11 177 b.toInt.toNat := ⟨_, rfl⟩
    refine pj_X_eqi hz12.symm ?_
    rw [← hz12, pj_nm_e]
    have ez12 : (pj_ai G11 177 b.toInt.toNat).toInt = z12.toInt := by rw [hz12]
    refine pj_X_of (fun r h => pj_T_is iG11 rfl rfl (by omega) (by omega) h) ?_
    show pj_X _ _ (pj_wa G11 185 (Int32.ofInt 2).toInt.toNat z12) 67 [(4, .int y5), (3, .int y4), (0, .ref 171), (1, .int b), (2, .int c)] [] _
    obtain ⟨G13, hG13⟩ : ∃ H, H = pj_wa G11 185 (Int32.ofInt 2).toInt.toNat z12 := ⟨_, rfl⟩
    have iG13 : pj_Inv G13 := by rw [hG13]; exact pj_Inv_wa iG11 rfl (fun q hq => by cases hq) (fun n hn => by cases hn)
    have kG13 : pj_kpt kc_204x G0 G13 := by rw [hG13]; exact pj_kpt_a kG11 rfl
    rw [← hG13]
    rw [pj_nm_e]
    refine pj_X_of (fun r h => pj_R_to (G13, 68, [(4, .int y5), (3, .int y4), (0, .ref 171), (1, .int b), (2, .int c)], [.ref 171], 0, 0) 68 2 (fun _ => rfl) h) ?_
    refine pj_X_of (fun r h => pj_T_gr iG13 rfl rfl rfl h) ?_
    refine pj_X_of (fun r h => pj_R_to (G13, 73, [(4, .int y5), (3, .int y4), (0, .ref 171), (1, .int b), (2, .int c)], [.ref 171, .int (Int32.ofInt 3), .ref 185], 0, 0) 73 3 (fun _ => rfl) h) ?_
    refine pj_X_of (fun r h => pj_T_gr iG13 rfl rfl rfl h) ?_
    refine pj_X_of (fun r h => pj_R_to (G13, 79, [(4, .int y5), (3, .int y4), (0, .ref 171), (1, .int b), (2, .int c)], [.int ((Int32.ofInt 4) * b), .ref 179, .int (Int32.ofInt 3), .ref 185], 0, 0) 79 4 (fun _ => rfl) h) ?_
    refine pj_X_eqi hz1.symm ?_
    refine pj_X_of (fun r h => pj_R_to (G13, 81, [(4, .int y5), (3, .int y4), (0, .ref 171), (1, .int b), (2, .int c)], [.int (z1 + (Int32.ofInt 3)), .ref 179, .int (Int32.ofInt 3), .ref 185], 0, 0) 81 3 (fun _ => rfl) h) ?_
    obtain ⟨z14, hz14⟩ : ∃ z : Int32, z = z1 + (Int32.ofInt 3) := ⟨_, rfl⟩
    refine pj_X_eqi hz14.symm ?_
    rw [← hz14, pj_nm_e]
    have fz14_0 : z14.toInt = z1.toInt + (Int32.ofInt 3).toInt := by rw [hz14]; exact pj_addI (by have := pj_i32 z1; have := pj_i32 (Int32.ofInt 3); omega) (by have := pj_i32 z1; have := pj_i32 (Int32.ofInt 3); omega)
    refine pj_X_of (fun r h => pj_T_il iG13 rfl rfl (by omega) (by omega) h) ?_
    show pj_X _ _ G13 82 [(4, .int y5), (3, .int y4), (0, .ref 171), (1, .int b), (2, .int c)] [.int (pj_ai G13 179 z14.toInt.toNat), .int (Int32.ofInt 3), .ref 185] _
    obtain ⟨z15, hz15⟩ : ∃ z : Int32, z = pj_ai G13 179 z14.toInt.toNat := ⟨_, rfl⟩
    refine pj_X_eqi hz15.symm ?_
    rw [← hz15, pj_nm_e]
    have ez15 : (pj_ai G13 179 z14.toInt.toNat).toInt = z15.toInt := by rw [hz15]
    refine pj_X_of (fun r h => pj_T_is iG13 rfl rfl (by omega) (by omega) h) ?_
    show pj_X _ _ (pj_wa G13 185 (Int32.ofInt 3).toInt.toNat z15) 83 [(4, .int y5), (3, .int y4), (0, .ref 171), (1, .int b), (2, .int c)] [] _
    obtain ⟨G16, hG16⟩ : ∃ H, H = pj_wa G13 185 (Int32.ofInt 3).toInt.toNat z15 := ⟨_, rfl⟩
    have iG16 : pj_Inv G16 := by rw [hG16]; exact pj_Inv_wa iG13 rfl (fun q hq => by cases hq) (fun n hn => by cases hn)
    have kG16 : pj_kpt kc_204x G0 G16 := by rw [hG16]; exact pj_kpt_a kG13 rfl
    rw [← hG16]
    rw [pj_nm_e]
    refine pj_X_of (fun r h => pj_R_to (G16, 84, [(4, .int y5), (3, .int y4), (0, .ref 171), (1, .int b), (2, .int c)], [.ref 171], 0, 0) 84 2 (fun _ => rfl) h) ?_
    refine pj_X_of (fun r h => pj_T_gr iG16 rfl rfl rfl h) ?_
    refine pj_X_of (fun r h => pj_R_to (G16, 89, [(4, .int y5), (3, .int y4), (0, .ref 171), (1, .int b), (2, .int c)], [.int c, .int (Int32.ofInt 4), .ref 185], 0, 0) 89 3 (fun _ => rfl) h) ?_
    cases b17 : pj_c1 .ge c 0 with
    | true =>
      rw [pj_cT]
      have ub17 := pj_u0_geT b17
      refine pj_X_of (fun r h => pj_R_ifT 96 rfl rfl b17 h) ?_
      refine pj_X_of (fun r h => pj_R_to (G16, 97, [(4, .int y5), (3, .int y4), (0, .ref 171), (1, .int b), (2, .int c)], [.ref 171, .int (Int32.ofInt 4), .ref 185], 0, 0) 97 2 (fun _ => rfl) h) ?_
      refine pj_X_of (fun r h => pj_T_gr iG16 rfl rfl rfl h) ?_
      refine pj_X_of (fun r h => pj_R_to (G16, 101, [(4, .int y5), (3, .int y4), (0, .ref 171), (1, .int b), (2, .int c)], [.int c, .ref 176, .int (Int32.ofInt 4), .ref 185], 0, 0) 101 2 (fun _ => rfl) h) ?_
      refine pj_X_of (fun r h => pj_T_il iG16 rfl rfl (by omega) (by omega) h) ?_
      show pj_X _ _ G16 102 [(4, .int y5), (3, .int y4), (0, .ref 171), (1, .int b), (2, .int c)] [.int (pj_ai G16 176 c.toInt.toNat), .int (Int32.ofInt 4), .ref 185] _
      obtain ⟨z18, hz18⟩ : ∃ z : Int32, z = pj_ai G16 176 c.toInt.toNat := ⟨_, rfl⟩
      refine pj_X_eqi hz18.symm ?_
      rw [← hz18, pj_nm_e]
      have ez18 : (pj_ai G16 176 c.toInt.toNat).toInt = z18.toInt := by rw [hz18]
      refine pj_X_of (fun r h => pj_T_is iG16 rfl rfl (by omega) (by omega) h) ?_
      show pj_X _ _ (pj_wa G16 185 (Int32.ofInt 4).toInt.toNat z18) 103 [(4, .int y5), (3, .int y4), (0, .ref 171), (1, .int b), (2, .int c)] [] _
      obtain ⟨G19, hG19⟩ : ∃ H, H = pj_wa G16 185 (Int32.ofInt 4).toInt.toNat z18 := ⟨_, rfl⟩
      have iG19 : pj_Inv G19 := by rw [hG19]; exact pj_Inv_wa iG16 rfl (fun q hq => by cases hq) (fun n hn => by cases hn)
      have kG19 : pj_kpt kc_204x G0 G19 := by rw [hG19]; exact pj_kpt_a kG16 rfl
      rw [← hG19]
      rw [pj_nm_e]
      refine pj_X_of (fun r h => pj_R_to (G19, 104, [(4, .int y5), (3, .int y4), (0, .ref 171), (1, .int b), (2, .int c)], [.ref 171], 0, 0) 104 2 (fun _ => rfl) h) ?_
      refine pj_X_of (fun r h => pj_T_gr iG19 rfl rfl rfl h) ?_
      refine pj_X_of (fun r h => pj_R_to (G19, 109, [(4, .int y5), (3, .int y4), (0, .ref 171), (1, .int b), (2, .int c)], [.int b, .int (Int32.ofInt 5), .ref 185], 0, 0) 109 3 (fun _ => rfl) h) ?_
      refine pj_X_of (fun r h => pj_T_is iG19 rfl rfl (by omega) (by omega) h) ?_
      show pj_X _ _ (pj_wa G19 185 (Int32.ofInt 5).toInt.toNat b) 110 [(4, .int y5), (3, .int y4), (0, .ref 171), (1, .int b), (2, .int c)] [] _
      obtain ⟨G20, hG20⟩ : ∃ H, H = pj_wa G19 185 (Int32.ofInt 5).toInt.toNat b := ⟨_, rfl⟩
      have iG20 : pj_Inv G20 := by rw [hG20]; exact pj_Inv_wa iG19 rfl (fun q hq => by cases hq) (fun n hn => by cases hn)
      have kG20 : pj_kpt kc_204x G0 G20 := by rw [hG20]; exact pj_kpt_a kG19 rfl
      rw [← hG20]
      rw [pj_nm_e]
      refine pj_X_of (fun r h => pj_R_to (G20, 111, [(4, .int y5), (3, .int y4), (0, .ref 171), (1, .int b), (2, .int c)], [.ref 171], 0, 0) 111 2 (fun _ => rfl) h) ?_
      refine pj_X_of (fun r h => pj_T_gr iG20 rfl rfl rfl h) ?_
      refine pj_X_of (fun r h => pj_R_to (G20, 117, [(4, .int y5), (3, .int y4), (0, .ref 171), (1, .int b), (2, .int c)], [.ref 171, .int ((Int8.ofInt 6).toInt32), .ref 185], 0, 0) 117 3 (fun _ => rfl) h) ?_
      refine pj_X_of (fun r h => pj_T_gr iG20 rfl rfl rfl h) ?_
      refine pj_X_of (fun r h => pj_R_to (G20, 122, [(4, .int y5), (3, .int y4), (0, .ref 171), (1, .int b), (2, .int c)], [.int ((Int8.ofInt 30).toInt32), .ref 179, .int ((Int8.ofInt 6).toInt32), .ref 185], 0, 0) 122 2 (fun _ => rfl) h) ?_
      refine pj_X_of (fun r h => pj_T_il iG20 rfl rfl (by omega) (by omega) h) ?_
      show pj_X _ _ G20 123 [(4, .int y5), (3, .int y4), (0, .ref 171), (1, .int b), (2, .int c)] [.int (pj_ai G20 179 ((Int8.ofInt 30).toInt32).toInt.toNat), .int ((Int8.ofInt 6).toInt32), .ref 185] _
      obtain ⟨z21, hz21⟩ : ∃ z : Int32, z = pj_ai G20 179 ((Int8.ofInt 30).toInt32).toInt.toNat := ⟨_, rfl⟩
      refine pj_X_eqi hz21.symm ?_
      rw [← hz21, pj_nm_e]
      have ez21 : (pj_ai G20 179 ((Int8.ofInt 30).toInt32).toInt.toNat).toInt = z21.toInt := by rw [hz21]
      refine pj_X_of (fun r h => pj_R_to (G20, 125, [(4, .int y5), (3, .int y4), (0, .ref 171), (1, .int b), (2, .int c)], [.int ((Int8.ofInt 24).toInt32), .int z21, .int ((Int8.ofInt 6).toInt32), .ref 185], 0, 0) 125 2 (fun _ => rfl) h) ?_
      refine pj_X_of (fun r h => pj_R_rm rfl (pj_nz (by omega)) h) ?_
      show pj_X _ _ G20 126 [(4, .int y5), (3, .int y4), (0, .ref 171), (1, .int b), (2, .int c)] [.int (z21 - z21 / ((Int8.ofInt 24).toInt32) * ((Int8.ofInt 24).toInt32)), .int ((Int8.ofInt 6).toInt32), .ref 185] _
      obtain ⟨z22, hz22⟩ : ∃ z : Int32, z = z21 - z21 / ((Int8.ofInt 24).toInt32) * ((Int8.ofInt 24).toInt32) := ⟨_, rfl⟩
      refine pj_X_eqi hz22.symm ?_
      rw [← hz22, pj_nm_e]
      refine pj_X_of (fun r h => pj_T_is iG20 rfl rfl (by omega) (by omega) h) ?_
      show pj_X _ _ (pj_wa G20 185 ((Int8.ofInt 6).toInt32).toInt.toNat z22) 127 [(4, .int y5), (3, .int y4), (0, .ref 171), (1, .int b), (2, .int c)] [] _
      obtain ⟨G23, hG23⟩ : ∃ H, H = pj_wa G20 185 ((Int8.ofInt 6).toInt32).toInt.toNat z22 := ⟨_, rfl⟩
      have iG23 : pj_Inv G23 := by rw [hG23]; exact pj_Inv_wa iG20 rfl (fun q hq => by cases hq) (fun n hn => by cases hn)
      have kG23 : pj_kpt kc_204x G0 G23 := by rw [hG23]; exact pj_kpt_a kG20 rfl
      rw [← hG23]
      rw [pj_nm_e]
      refine pj_X_of (fun r h => pj_R_to (G23, 128, [(4, .int y5), (3, .int y4), (0, .ref 171), (1, .int b), (2, .int c)], [.ref 171], 0, 0) 128 2 (fun _ => rfl) h) ?_
      refine pj_X_ca (vs := [.ref 171]) rfl (fun _ => rfl) ⟨Nat.le_of_ble_eq_true rfl, Nat.le_of_ble_eq_true rfl, pj_T_rcv iG23 rfl⟩ ⟨rfl, rfl⟩ (pj_Y_up (by decide) (ct_202x G23 iG23 (pj_RI_k p0_ kG23 rfl))) ?_
      rintro _ G25 ⟨y24, rfl, iG25, jG25, ry24, fy24⟩
      rw [← fy24, pj_bd_e]
      have kG25 : pj_kpt kc_204x G0 G25 := pj_kpt_t kG23 (pj_kpt_s jG25 rfl)
      show pj_X _ _ G25 131 [(4, .int y5), (3, .int y4), (0, .ref 171), (1, .int b), (2, .int c)] [.int y24] _
      exact pj_X_rt rfl rfl ⟨_, rfl, iG25, kG25, ⟨by omega, by omega⟩, rfl⟩
    | false =>
      rw [pj_cF]
      have ub17 := pj_u0_geF b17
      refine pj_X_of (fun r h => pj_R_ifF rfl b17 h) ?_
      refine pj_X_of (fun r h => pj_R_to (G16, 102, [(4, .int y5), (3, .int y4), (0, .ref 171), (1, .int b), (2, .int c)], [.int (Int32.ofInt 0), .int (Int32.ofInt 4), .ref 185], 0, 0) 102 3 (fun _ => rfl) h) ?_
      refine pj_X_of (fun r h => pj_T_is iG16 rfl rfl (by omega) (by omega) h) ?_
      show pj_X _ _ (pj_wa G16 185 (Int32.ofInt 4).toInt.toNat (Int32.ofInt 0)) 103 [(4, .int y5), (3, .int y4), (0, .ref 171), (1, .int b), (2, .int c)] [] _
      obtain ⟨G26, hG26⟩ : ∃ H, H = pj_wa G16 185 (Int32.ofInt 4).toInt.toNat (Int32.ofInt 0) := ⟨_, rfl⟩
      have iG26 : pj_Inv G26 := by rw [hG26]; exact pj_Inv_wa iG16 rfl (fun q hq => by cases hq) (fun n hn => by cases hn)
      have kG26 : pj_kpt kc_204x G0 G26 := by rw [hG26]; exact pj_kpt_a kG16 rfl
      rw [← hG26]
      rw [pj_nm_e]
      refine pj_X_of (fun r h => pj_R_to (G26, 104, [(4, .int y5), (3, .int y4), (0, .ref 171), (1, .int b), (2, .int c)], [.ref 171], 0, 0) 104 2 (fun _ => rfl) h) ?_
      refine pj_X_of (fun r h => pj_T_gr iG26 rfl rfl rfl h) ?_
      refine pj_X_of (fun r h => pj_R_to (G26, 109, [(4, .int y5), (3, .int y4), (0, .ref 171), (1, .int b), (2, .int c)], [.int b, .int (Int32.ofInt 5), .ref 185], 0, 0) 109 3 (fun _ => rfl) h) ?_
      refine pj_X_of (fun r h => pj_T_is iG26 rfl rfl (by omega) (by omega) h) ?_
      show pj_X _ _ (pj_wa G26 185 (Int32.ofInt 5).toInt.toNat b) 110 [(4, .int y5), (3, .int y4), (0, .ref 171), (1, .int b), (2, .int c)] [] _
      obtain ⟨G27, hG27⟩ : ∃ H, H = pj_wa G26 185 (Int32.ofInt 5).toInt.toNat b := ⟨_, rfl⟩
      have iG27 : pj_Inv G27 := by rw [hG27]; exact pj_Inv_wa iG26 rfl (fun q hq => by cases hq) (fun n hn => by cases hn)
      have kG27 : pj_kpt kc_204x G0 G27 := by rw [hG27]; exact pj_kpt_a kG26 rfl
      rw [← hG27]
      rw [pj_nm_e]
      refine pj_X_of (fun r h => pj_R_to (G27, 111, [(4, .int y5), (3, .int y4), (0, .ref 171), (1, .int b), (2, .int c)], [.ref 171], 0, 0) 111 2 (fun _ => rfl) h) ?_
      refine pj_X_of (fun r h => pj_T_gr iG27 rfl rfl rfl h) ?_
      refine pj_X_of (fun r h => pj_R_to (G27, 117, [(4, .int y5), (3, .int y4), (0, .ref 171), (1, .int b), (2, .int c)], [.ref 171, .int ((Int8.ofInt 6).toInt32), .ref 185], 0, 0) 117 3 (fun _ => rfl) h) ?_
      refine pj_X_of (fun r h => pj_T_gr iG27 rfl rfl rfl h) ?_
      refine pj_X_of (fun r h => pj_R_to (G27, 122, [(4, .int y5), (3, .int y4), (0, .ref 171), (1, .int b), (2, .int c)], [.int ((Int8.ofInt 30).toInt32), .ref 179, .int ((Int8.ofInt 6).toInt32), .ref 185], 0, 0) 122 2 (fun _ => rfl) h) ?_
      refine pj_X_of (fun r h => pj_T_il iG27 rfl rfl (by omega) (by omega) h) ?_
      show pj_X _ _ G27 123 [(4, .int y5), (3, .int y4), (0, .ref 171), (1, .int b), (2, .int c)] [.int (pj_ai G27 179 ((Int8.ofInt 30).toInt32).toInt.toNat), .int ((Int8.ofInt 6).toInt32), .ref 185] _
      obtain ⟨z28, hz28⟩ : ∃ z : Int32, z = pj_ai G27 179 ((Int8.ofInt 30).toInt32).toInt.toNat := ⟨_, rfl⟩
      refine pj_X_eqi hz28.symm ?_
      rw [← hz28, pj_nm_e]
      have ez28 : (pj_ai G27 179 ((Int8.ofInt 30).toInt32).toInt.toNat).toInt = z28.toInt := by rw [hz28]
      refine pj_X_of (fun r h => pj_R_to (G27, 125, [(4, .int y5), (3, .int y4), (0, .ref 171), (1, .int b), (2, .int c)], [.int ((Int8.ofInt 24).toInt32), .int z28, .int ((Int8.ofInt 6).toInt32), .ref 185], 0, 0) 125 2 (fun _ => rfl) h) ?_
      refine pj_X_of (fun r h => pj_R_rm rfl (pj_nz (by omega)) h) ?_
      show pj_X _ _ G27 126 [(4, .int y5), (3, .int y4), (0, .ref 171), (1, .int b), (2, .int c)] [.int (z28 - z28 / ((Int8.ofInt 24).toInt32) * ((Int8.ofInt 24).toInt32)), .int ((Int8.ofInt 6).toInt32), .ref 185] _
      obtain ⟨z29, hz29⟩ : ∃ z : Int32, z = z28 - z28 / ((Int8.ofInt 24).toInt32) * ((Int8.ofInt 24).toInt32) := ⟨_, rfl⟩
      refine pj_X_eqi hz29.symm ?_
      rw [← hz29, pj_nm_e]
      refine pj_X_of (fun r h => pj_T_is iG27 rfl rfl (by omega) (by omega) h) ?_
      show pj_X _ _ (pj_wa G27 185 ((Int8.ofInt 6).toInt32).toInt.toNat z29) 127 [(4, .int y5), (3, .int y4), (0, .ref 171), (1, .int b), (2, .int c)] [] _
      obtain ⟨G30, hG30⟩ : ∃ H, H = pj_wa G27 185 ((Int8.ofInt 6).toInt32).toInt.toNat z29 := ⟨_, rfl⟩
      have iG30 : pj_Inv G30 := by rw [hG30]; exact pj_Inv_wa iG27 rfl (fun q hq => by cases hq) (fun n hn => by cases hn)
      have kG30 : pj_kpt kc_204x G0 G30 := by rw [hG30]; exact pj_kpt_a kG27 rfl
      rw [← hG30]
      rw [pj_nm_e]
      refine pj_X_of (fun r h => pj_R_to (G30, 128, [(4, .int y5), (3, .int y4), (0, .ref 171), (1, .int b), (2, .int c)], [.ref 171], 0, 0) 128 2 (fun _ => rfl) h) ?_
      refine pj_X_ca (vs := [.ref 171]) rfl (fun _ => rfl) ⟨Nat.le_of_ble_eq_true rfl, Nat.le_of_ble_eq_true rfl, pj_T_rcv iG30 rfl⟩ ⟨rfl, rfl⟩ (pj_Y_up (by decide) (ct_202x G30 iG30 (pj_RI_k p0_ kG30 rfl))) ?_
      rintro _ G32 ⟨y31, rfl, iG32, jG32, ry31, fy31⟩
      rw [← fy31, pj_bd_e]
      have kG32 : pj_kpt kc_204x G0 G32 := pj_kpt_t kG30 (pj_kpt_s jG32 rfl)
      show pj_X _ _ G32 131 [(4, .int y5), (3, .int y4), (0, .ref 171), (1, .int b), (2, .int c)] [.int y31] _
      exact pj_X_rt rfl rfl ⟨_, rfl, iG32, kG32, ⟨by omega, by omega⟩, rfl⟩
  | false =>
    rw [pj_cF]
    have ub9 := pj_u_geF b9
    refine pj_X_of (fun r h => pj_R_icF rfl b9 h) ?_
    refine pj_X_of (fun r h => pj_R_to (G8, 51, [(4, .int y5), (3, .int y4), (0, .ref 171), (1, .int b), (2, .int c)], [.int (Int32.ofInt 1), .int (Int32.ofInt 1), .ref 185], 0, 0) 51 3 (fun _ => rfl) h) ?_
    refine pj_X_ca (vs := [.int (Int32.ofInt 1)]) rfl (fun _ => rfl) ⟨Nat.le_of_ble_eq_true rfl, Nat.le_of_ble_eq_true rfl, rfl⟩ ⟨rfl, rfl⟩ (pj_Y_up (by decide) (ct_172x G8 iG8 (Int32.ofInt 1) ⟨by omega, by omega⟩)) ?_
    rintro _ _ ⟨y33, rfl, rfl, ry33, ey33, fy33⟩
    rw [← fy33, pj_nm_e]
    show pj_X _ _ G8 54 [(4, .int y5), (3, .int y4), (0, .ref 171), (1, .int b), (2, .int c)] [.int y33, .int (Int32.ofInt 1), .ref 185] _
    refine pj_X_of (fun r h => pj_T_is iG8 rfl rfl (by omega) (by omega) h) ?_
    show pj_X _ _ (pj_wa G8 185 (Int32.ofInt 1).toInt.toNat y33) 55 [(4, .int y5), (3, .int y4), (0, .ref 171), (1, .int b), (2, .int c)] [] _
    obtain ⟨G34, hG34⟩ : ∃ H, H = pj_wa G8 185 (Int32.ofInt 1).toInt.toNat y33 := ⟨_, rfl⟩
    have iG34 : pj_Inv G34 := by rw [hG34]; exact pj_Inv_wa iG8 rfl (fun q hq => by cases hq) (fun n hn => by cases hn)
    have kG34 : pj_kpt kc_204x G0 G34 := by rw [hG34]; exact pj_kpt_a kG8 rfl
    rw [← hG34]
    rw [pj_nm_e]
    refine pj_X_of (fun r h => pj_R_to (G34, 56, [(4, .int y5), (3, .int y4), (0, .ref 171), (1, .int b), (2, .int c)], [.ref 171], 0, 0) 56 2 (fun _ => rfl) h) ?_
    refine pj_X_of (fun r h => pj_T_gr iG34 rfl rfl rfl h) ?_
    refine pj_X_of (fun r h => pj_R_to (G34, 61, [(4, .int y5), (3, .int y4), (0, .ref 171), (1, .int b), (2, .int c)], [.ref 171, .int (Int32.ofInt 2), .ref 185], 0, 0) 61 3 (fun _ => rfl) h) ?_
    refine pj_X_of (fun r h => pj_T_gr iG34 rfl rfl rfl h) ?_
    refine pj_X_of (fun r h => pj_R_to (G34, 65, [(4, .int y5), (3, .int y4), (0, .ref 171), (1, .int b), (2, .int c)], [.int b, .ref 177, .int (Int32.ofInt 2), .ref 185], 0, 0) 65 2 (fun _ => rfl) h) ?_
    refine pj_X_of (fun r h => pj_T_il iG34 rfl rfl (by omega) (by omega) h) ?_
    show pj_X _ _ G34 66 [(4, .int y5), (3, .int y4), (0, .ref 171), (1, .int b), (2, .int c)] [.int (pj_ai G34 177 b.toInt.toNat), .int (Int32.ofInt 2), .ref 185] _
    obtain ⟨z35, hz35⟩ : ∃ z : Int32, z = pj_ai G34 177 b.toInt.toNat := ⟨_, rfl⟩
    refine pj_X_eqi hz35.symm ?_
    rw [← hz35, pj_nm_e]
    have ez35 : (pj_ai G34 177 b.toInt.toNat).toInt = z35.toInt := by rw [hz35]
    refine pj_X_of (fun r h => pj_T_is iG34 rfl rfl (by omega) (by omega) h) ?_
    show pj_X _ _ (pj_wa G34 185 (Int32.ofInt 2).toInt.toNat z35) 67 [(4, .int y5), (3, .int y4), (0, .ref 171), (1, .int b), (2, .int c)] [] _
    obtain ⟨G36, hG36⟩ : ∃ H, H = pj_wa G34 185 (Int32.ofInt 2).toInt.toNat z35 := ⟨_, rfl⟩
    have iG36 : pj_Inv G36 := by rw [hG36]; exact pj_Inv_wa iG34 rfl (fun q hq => by cases hq) (fun n hn => by cases hn)
    have kG36 : pj_kpt kc_204x G0 G36 := by rw [hG36]; exact pj_kpt_a kG34 rfl
    rw [← hG36]
    rw [pj_nm_e]
    refine pj_X_of (fun r h => pj_R_to (G36, 68, [(4, .int y5), (3, .int y4), (0, .ref 171), (1, .int b), (2, .int c)], [.ref 171], 0, 0) 68 2 (fun _ => rfl) h) ?_
    refine pj_X_of (fun r h => pj_T_gr iG36 rfl rfl rfl h) ?_
    refine pj_X_of (fun r h => pj_R_to (G36, 73, [(4, .int y5), (3, .int y4), (0, .ref 171), (1, .int b), (2, .int c)], [.ref 171, .int (Int32.ofInt 3), .ref 185], 0, 0) 73 3 (fun _ => rfl) h) ?_
    refine pj_X_of (fun r h => pj_T_gr iG36 rfl rfl rfl h) ?_
    refine pj_X_of (fun r h => pj_R_to (G36, 79, [(4, .int y5), (3, .int y4), (0, .ref 171), (1, .int b), (2, .int c)], [.int ((Int32.ofInt 4) * b), .ref 179, .int (Int32.ofInt 3), .ref 185], 0, 0) 79 4 (fun _ => rfl) h) ?_
    refine pj_X_eqi hz1.symm ?_
    refine pj_X_of (fun r h => pj_R_to (G36, 81, [(4, .int y5), (3, .int y4), (0, .ref 171), (1, .int b), (2, .int c)], [.int (z1 + (Int32.ofInt 3)), .ref 179, .int (Int32.ofInt 3), .ref 185], 0, 0) 81 3 (fun _ => rfl) h) ?_
    obtain ⟨z37, hz37⟩ : ∃ z : Int32, z = z1 + (Int32.ofInt 3) := ⟨_, rfl⟩
    refine pj_X_eqi hz37.symm ?_
    rw [← hz37, pj_nm_e]
    have fz37_0 : z37.toInt = z1.toInt + (Int32.ofInt 3).toInt := by rw [hz37]; exact pj_addI (by have := pj_i32 z1; have := pj_i32 (Int32.ofInt 3); omega) (by have := pj_i32 z1; have := pj_i32 (Int32.ofInt 3); omega)
    refine pj_X_of (fun r h => pj_T_il iG36 rfl rfl (by omega) (by omega) h) ?_
    show pj_X _ _ G36 82 [(4, .int y5), (3, .int y4), (0, .ref 171), (1, .int b), (2, .int c)] [.int (pj_ai G36 179 z37.toInt.toNat), .int (Int32.ofInt 3), .ref 185] _
    obtain ⟨z38, hz38⟩ : ∃ z : Int32, z = pj_ai G36 179 z37.toInt.toNat := ⟨_, rfl⟩
    refine pj_X_eqi hz38.symm ?_
    rw [← hz38, pj_nm_e]
    have ez38 : (pj_ai G36 179 z37.toInt.toNat).toInt = z38.toInt := by rw [hz38]
    refine pj_X_of (fun r h => pj_T_is iG36 rfl rfl (by omega) (by omega) h) ?_
    show pj_X _ _ (pj_wa G36 185 (Int32.ofInt 3).toInt.toNat z38) 83 [(4, .int y5), (3, .int y4), (0, .ref 171), (1, .int b), (2, .int c)] [] _
    obtain ⟨G39, hG39⟩ : ∃ H, H = pj_wa G36 185 (Int32.ofInt 3).toInt.toNat z38 := ⟨_, rfl⟩
    have iG39 : pj_Inv G39 := by rw [hG39]; exact pj_Inv_wa iG36 rfl (fun q hq => by cases hq) (fun n hn => by cases hn)
    have kG39 : pj_kpt kc_204x G0 G39 := by rw [hG39]; exact pj_kpt_a kG36 rfl
    rw [← hG39]
    rw [pj_nm_e]
    refine pj_X_of (fun r h => pj_R_to (G39, 84, [(4, .int y5), (3, .int y4), (0, .ref 171), (1, .int b), (2, .int c)], [.ref 171], 0, 0) 84 2 (fun _ => rfl) h) ?_
    refine pj_X_of (fun r h => pj_T_gr iG39 rfl rfl rfl h) ?_
    refine pj_X_of (fun r h => pj_R_to (G39, 89, [(4, .int y5), (3, .int y4), (0, .ref 171), (1, .int b), (2, .int c)], [.int c, .int (Int32.ofInt 4), .ref 185], 0, 0) 89 3 (fun _ => rfl) h) ?_
    cases b40 : pj_c1 .ge c 0 with
    | true =>
      rw [pj_cT]
      have ub40 := pj_u0_geT b40
      refine pj_X_of (fun r h => pj_R_ifT 96 rfl rfl b40 h) ?_
      refine pj_X_of (fun r h => pj_R_to (G39, 97, [(4, .int y5), (3, .int y4), (0, .ref 171), (1, .int b), (2, .int c)], [.ref 171, .int (Int32.ofInt 4), .ref 185], 0, 0) 97 2 (fun _ => rfl) h) ?_
      refine pj_X_of (fun r h => pj_T_gr iG39 rfl rfl rfl h) ?_
      refine pj_X_of (fun r h => pj_R_to (G39, 101, [(4, .int y5), (3, .int y4), (0, .ref 171), (1, .int b), (2, .int c)], [.int c, .ref 176, .int (Int32.ofInt 4), .ref 185], 0, 0) 101 2 (fun _ => rfl) h) ?_
      refine pj_X_of (fun r h => pj_T_il iG39 rfl rfl (by omega) (by omega) h) ?_
      show pj_X _ _ G39 102 [(4, .int y5), (3, .int y4), (0, .ref 171), (1, .int b), (2, .int c)] [.int (pj_ai G39 176 c.toInt.toNat), .int (Int32.ofInt 4), .ref 185] _
      obtain ⟨z41, hz41⟩ : ∃ z : Int32, z = pj_ai G39 176 c.toInt.toNat := ⟨_, rfl⟩
      refine pj_X_eqi hz41.symm ?_
      rw [← hz41, pj_nm_e]
      have ez41 : (pj_ai G39 176 c.toInt.toNat).toInt = z41.toInt := by rw [hz41]
      refine pj_X_of (fun r h => pj_T_is iG39 rfl rfl (by omega) (by omega) h) ?_
      show pj_X _ _ (pj_wa G39 185 (Int32.ofInt 4).toInt.toNat z41) 103 [(4, .int y5), (3, .int y4), (0, .ref 171), (1, .int b), (2, .int c)] [] _
      obtain ⟨G42, hG42⟩ : ∃ H, H = pj_wa G39 185 (Int32.ofInt 4).toInt.toNat z41 := ⟨_, rfl⟩
      have iG42 : pj_Inv G42 := by rw [hG42]; exact pj_Inv_wa iG39 rfl (fun q hq => by cases hq) (fun n hn => by cases hn)
      have kG42 : pj_kpt kc_204x G0 G42 := by rw [hG42]; exact pj_kpt_a kG39 rfl
      rw [← hG42]
      rw [pj_nm_e]
      refine pj_X_of (fun r h => pj_R_to (G42, 104, [(4, .int y5), (3, .int y4), (0, .ref 171), (1, .int b), (2, .int c)], [.ref 171], 0, 0) 104 2 (fun _ => rfl) h) ?_
      refine pj_X_of (fun r h => pj_T_gr iG42 rfl rfl rfl h) ?_
      refine pj_X_of (fun r h => pj_R_to (G42, 109, [(4, .int y5), (3, .int y4), (0, .ref 171), (1, .int b), (2, .int c)], [.int b, .int (Int32.ofInt 5), .ref 185], 0, 0) 109 3 (fun _ => rfl) h) ?_
      refine pj_X_of (fun r h => pj_T_is iG42 rfl rfl (by omega) (by omega) h) ?_
      show pj_X _ _ (pj_wa G42 185 (Int32.ofInt 5).toInt.toNat b) 110 [(4, .int y5), (3, .int y4), (0, .ref 171), (1, .int b), (2, .int c)] [] _
      obtain ⟨G43, hG43⟩ : ∃ H, H = pj_wa G42 185 (Int32.ofInt 5).toInt.toNat b := ⟨_, rfl⟩
      have iG43 : pj_Inv G43 := by rw [hG43]; exact pj_Inv_wa iG42 rfl (fun q hq => by cases hq) (fun n hn => by cases hn)
      have kG43 : pj_kpt kc_204x G0 G43 := by rw [hG43]; exact pj_kpt_a kG42 rfl
      rw [← hG43]
      rw [pj_nm_e]
      refine pj_X_of (fun r h => pj_R_to (G43, 111, [(4, .int y5), (3, .int y4), (0, .ref 171), (1, .int b), (2, .int c)], [.ref 171], 0, 0) 111 2 (fun _ => rfl) h) ?_
      refine pj_X_of (fun r h => pj_T_gr iG43 rfl rfl rfl h) ?_
      refine pj_X_of (fun r h => pj_R_to (G43, 117, [(4, .int y5), (3, .int y4), (0, .ref 171), (1, .int b), (2, .int c)], [.ref 171, .int ((Int8.ofInt 6).toInt32), .ref 185], 0, 0) 117 3 (fun _ => rfl) h) ?_
      refine pj_X_of (fun r h => pj_T_gr iG43 rfl rfl rfl h) ?_
      refine pj_X_of (fun r h => pj_R_to (G43, 122, [(4, .int y5), (3, .int y4), (0, .ref 171), (1, .int b), (2, .int c)], [.int ((Int8.ofInt 30).toInt32), .ref 179, .int ((Int8.ofInt 6).toInt32), .ref 185], 0, 0) 122 2 (fun _ => rfl) h) ?_
      refine pj_X_of (fun r h => pj_T_il iG43 rfl rfl (by omega) (by omega) h) ?_
      show pj_X _ _ G43 123 [(4, .int y5), (3, .int y4), (0, .ref 171), (1, .int b), (2, .int c)] [.int (pj_ai G43 179 ((Int8.ofInt 30).toInt32).toInt.toNat), .int ((Int8.ofInt 6).toInt32), .ref 185] _
      obtain ⟨z44, hz44⟩ : ∃ z : Int32, z = pj_ai G43 179 ((Int8.ofInt 30).toInt32).toInt.toNat := ⟨_, rfl⟩
      refine pj_X_eqi hz44.symm ?_
      rw [← hz44, pj_nm_e]
      have ez44 : (pj_ai G43 179 ((Int8.ofInt 30).toInt32).toInt.toNat).toInt = z44.toInt := by rw [hz44]
      refine pj_X_of (fun r h => pj_R_to (G43, 125, [(4, .int y5), (3, .int y4), (0, .ref 171), (1, .int b), (2, .int c)], [.int ((Int8.ofInt 24).toInt32), .int z44, .int ((Int8.ofInt 6).toInt32), .ref 185], 0, 0) 125 2 (fun _ => rfl) h) ?_
      refine pj_X_of (fun r h => pj_R_rm rfl (pj_nz (by omega)) h) ?_
      show pj_X _ _ G43 126 [(4, .int y5), (3, .int y4), (0, .ref 171), (1, .int b), (2, .int c)] [.int (z44 - z44 / ((Int8.ofInt 24).toInt32) * ((Int8.ofInt 24).toInt32)), .int ((Int8.ofInt 6).toInt32), .ref 185] _
      obtain ⟨z45, hz45⟩ : ∃ z : Int32, z = z44 - z44 / ((Int8.ofInt 24).toInt32) * ((Int8.ofInt 24).toInt32) := ⟨_, rfl⟩
      refine pj_X_eqi hz45.symm ?_
      rw [← hz45, pj_nm_e]
      refine pj_X_of (fun r h => pj_T_is iG43 rfl rfl (by omega) (by omega) h) ?_
      show pj_X _ _ (pj_wa G43 185 ((Int8.ofInt 6).toInt32).toInt.toNat z45) 127 [(4, .int y5), (3, .int y4), (0, .ref 171), (1, .int b), (2, .int c)] [] _
      obtain ⟨G46, hG46⟩ : ∃ H, H = pj_wa G43 185 ((Int8.ofInt 6).toInt32).toInt.toNat z45 := ⟨_, rfl⟩
      have iG46 : pj_Inv G46 := by rw [hG46]; exact pj_Inv_wa iG43 rfl (fun q hq => by cases hq) (fun n hn => by cases hn)
      have kG46 : pj_kpt kc_204x G0 G46 := by rw [hG46]; exact pj_kpt_a kG43 rfl
      rw [← hG46]
      rw [pj_nm_e]
      refine pj_X_of (fun r h => pj_R_to (G46, 128, [(4, .int y5), (3, .int y4), (0, .ref 171), (1, .int b), (2, .int c)], [.ref 171], 0, 0) 128 2 (fun _ => rfl) h) ?_
      refine pj_X_ca (vs := [.ref 171]) rfl (fun _ => rfl) ⟨Nat.le_of_ble_eq_true rfl, Nat.le_of_ble_eq_true rfl, pj_T_rcv iG46 rfl⟩ ⟨rfl, rfl⟩ (pj_Y_up (by decide) (ct_202x G46 iG46 (pj_RI_k p0_ kG46 rfl))) ?_
      rintro _ G48 ⟨y47, rfl, iG48, jG48, ry47, fy47⟩
      rw [← fy47, pj_bd_e]
      have kG48 : pj_kpt kc_204x G0 G48 := pj_kpt_t kG46 (pj_kpt_s jG48 rfl)
      show pj_X _ _ G48 131 [(4, .int y5), (3, .int y4), (0, .ref 171), (1, .int b), (2, .int c)] [.int y47] _
      exact pj_X_rt rfl rfl ⟨_, rfl, iG48, kG48, ⟨by omega, by omega⟩, rfl⟩
    | false =>
      rw [pj_cF]
      have ub40 := pj_u0_geF b40
      refine pj_X_of (fun r h => pj_R_ifF rfl b40 h) ?_
      refine pj_X_of (fun r h => pj_R_to (G39, 102, [(4, .int y5), (3, .int y4), (0, .ref 171), (1, .int b), (2, .int c)], [.int (Int32.ofInt 0), .int (Int32.ofInt 4), .ref 185], 0, 0) 102 3 (fun _ => rfl) h) ?_
      refine pj_X_of (fun r h => pj_T_is iG39 rfl rfl (by omega) (by omega) h) ?_
      show pj_X _ _ (pj_wa G39 185 (Int32.ofInt 4).toInt.toNat (Int32.ofInt 0)) 103 [(4, .int y5), (3, .int y4), (0, .ref 171), (1, .int b), (2, .int c)] [] _
      obtain ⟨G49, hG49⟩ : ∃ H, H = pj_wa G39 185 (Int32.ofInt 4).toInt.toNat (Int32.ofInt 0) := ⟨_, rfl⟩
      have iG49 : pj_Inv G49 := by rw [hG49]; exact pj_Inv_wa iG39 rfl (fun q hq => by cases hq) (fun n hn => by cases hn)
      have kG49 : pj_kpt kc_204x G0 G49 := by rw [hG49]; exact pj_kpt_a kG39 rfl
      rw [← hG49]
      rw [pj_nm_e]
      refine pj_X_of (fun r h => pj_R_to (G49, 104, [(4, .int y5), (3, .int y4), (0, .ref 171), (1, .int b), (2, .int c)], [.ref 171], 0, 0) 104 2 (fun _ => rfl) h) ?_
      refine pj_X_of (fun r h => pj_T_gr iG49 rfl rfl rfl h) ?_
      refine pj_X_of (fun r h => pj_R_to (G49, 109, [(4, .int y5), (3, .int y4), (0, .ref 171), (1, .int b), (2, .int c)], [.int b, .int (Int32.ofInt 5), .ref 185], 0, 0) 109 3 (fun _ => rfl) h) ?_
      refine pj_X_of (fun r h => pj_T_is iG49 rfl rfl (by omega) (by omega) h) ?_
      show pj_X _ _ (pj_wa G49 185 (Int32.ofInt 5).toInt.toNat b) 110 [(4, .int y5), (3, .int y4), (0, .ref 171), (1, .int b), (2, .int c)] [] _
      obtain ⟨G50, hG50⟩ : ∃ H, H = pj_wa G49 185 (Int32.ofInt 5).toInt.toNat b := ⟨_, rfl⟩
      have iG50 : pj_Inv G50 := by rw [hG50]; exact pj_Inv_wa iG49 rfl (fun q hq => by cases hq) (fun n hn => by cases hn)
      have kG50 : pj_kpt kc_204x G0 G50 := by rw [hG50]; exact pj_kpt_a kG49 rfl
      rw [← hG50]
      rw [pj_nm_e]
      refine pj_X_of (fun r h => pj_R_to (G50, 111, [(4, .int y5), (3, .int y4), (0, .ref 171), (1, .int b), (2, .int c)], [.ref 171], 0, 0) 111 2 (fun _ => rfl) h) ?_
      refine pj_X_of (fun r h => pj_T_gr iG50 rfl rfl rfl h) ?_
      refine pj_X_of (fun r h => pj_R_to (G50, 117, [(4, .int y5), (3, .int y4), (0, .ref 171), (1, .int b), (2, .int c)], [.ref 171, .int ((Int8.ofInt 6).toInt32), .ref 185], 0, 0) 117 3 (fun _ => rfl) h) ?_
      refine pj_X_of (fun r h => pj_T_gr iG50 rfl rfl rfl h) ?_
      refine pj_X_of (fun r h => pj_R_to (G50, 122, [(4, .int y5), (3, .int y4), (0, .ref 171), (1, .int b), (2, .int c)], [.int ((Int8.ofInt 30).toInt32), .ref 179, .int ((Int8.ofInt 6).toInt32), .ref 185], 0, 0) 122 2 (fun _ => rfl) h) ?_
      refine pj_X_of (fun r h => pj_T_il iG50 rfl rfl (by omega) (by omega) h) ?_
      show pj_X _ _ G50 123 [(4, .int y5), (3, .int y4), (0, .ref 171), (1, .int b), (2, .int c)] [.int (pj_ai G50 179 ((Int8.ofInt 30).toInt32).toInt.toNat), .int ((Int8.ofInt 6).toInt32), .ref 185] _
      obtain ⟨z51, hz51⟩ : ∃ z : Int32, z = pj_ai G50 179 ((Int8.ofInt 30).toInt32).toInt.toNat := ⟨_, rfl⟩
      refine pj_X_eqi hz51.symm ?_
      rw [← hz51, pj_nm_e]
      have ez51 : (pj_ai G50 179 ((Int8.ofInt 30).toInt32).toInt.toNat).toInt = z51.toInt := by rw [hz51]
      refine pj_X_of (fun r h => pj_R_to (G50, 125, [(4, .int y5), (3, .int y4), (0, .ref 171), (1, .int b), (2, .int c)], [.int ((Int8.ofInt 24).toInt32), .int z51, .int ((Int8.ofInt 6).toInt32), .ref 185], 0, 0) 125 2 (fun _ => rfl) h) ?_
      refine pj_X_of (fun r h => pj_R_rm rfl (pj_nz (by omega)) h) ?_
      show pj_X _ _ G50 126 [(4, .int y5), (3, .int y4), (0, .ref 171), (1, .int b), (2, .int c)] [.int (z51 - z51 / ((Int8.ofInt 24).toInt32) * ((Int8.ofInt 24).toInt32)), .int ((Int8.ofInt 6).toInt32), .ref 185] _
      obtain ⟨z52, hz52⟩ : ∃ z : Int32, z = z51 - z51 / ((Int8.ofInt 24).toInt32) * ((Int8.ofInt 24).toInt32) := ⟨_, rfl⟩
      refine pj_X_eqi hz52.symm ?_
      rw [← hz52, pj_nm_e]
      refine pj_X_of (fun r h => pj_T_is iG50 rfl rfl (by omega) (by omega) h) ?_
      show pj_X _ _ (pj_wa G50 185 ((Int8.ofInt 6).toInt32).toInt.toNat z52) 127 [(4, .int y5), (3, .int y4), (0, .ref 171), (1, .int b), (2, .int c)] [] _
      obtain ⟨G53, hG53⟩ : ∃ H, H = pj_wa G50 185 ((Int8.ofInt 6).toInt32).toInt.toNat z52 := ⟨_, rfl⟩
      have iG53 : pj_Inv G53 := by rw [hG53]; exact pj_Inv_wa iG50 rfl (fun q hq => by cases hq) (fun n hn => by cases hn)
      have kG53 : pj_kpt kc_204x G0 G53 := by rw [hG53]; exact pj_kpt_a kG50 rfl
      rw [← hG53]
      rw [pj_nm_e]
      refine pj_X_of (fun r h => pj_R_to (G53, 128, [(4, .int y5), (3, .int y4), (0, .ref 171), (1, .int b), (2, .int c)], [.ref 171], 0, 0) 128 2 (fun _ => rfl) h) ?_
      refine pj_X_ca (vs := [.ref 171]) rfl (fun _ => rfl) ⟨Nat.le_of_ble_eq_true rfl, Nat.le_of_ble_eq_true rfl, pj_T_rcv iG53 rfl⟩ ⟨rfl, rfl⟩ (pj_Y_up (by decide) (ct_202x G53 iG53 (pj_RI_k p0_ kG53 rfl))) ?_
      rintro _ G55 ⟨y54, rfl, iG55, jG55, ry54, fy54⟩
      rw [← fy54, pj_bd_e]
      have kG55 : pj_kpt kc_204x G0 G55 := pj_kpt_t kG53 (pj_kpt_s jG55 rfl)
      show pj_X _ _ G55 131 [(4, .int y5), (3, .int y4), (0, .ref 171), (1, .int b), (2, .int c)] [.int y54] _
      exact pj_X_rt rfl rfl ⟨_, rfl, iG55, kG55, ⟨by omega, by omega⟩, rfl⟩
theorem fr_205x (G0 : pj_G) (hI : pj_Inv G0) (b : Int32) (c : Int32) (rb : (0 : Int) ≤ b.toInt ∧ b.toInt ≤ 5) (rc : (-1 : Int) ≤ c.toInt ∧ c.toInt ≤ 9) (p0_ : pj_RI G0) : pj_Inv (F_205x G0 b c).2 ∧ pj_kpt kc_204x G0 (F_205x G0 b c).2 ∧ ((1 : Int) ≤ (F_205x G0 b c).1.toInt ∧ (F_205x G0 b c).1.toInt ≤ 99) := by
  obtain ⟨v, G', -, y, -, i, j, r, e⟩ := ct_204x G0 hI b c rb rc p0_
  rw [← e]
  exact ⟨i, j, r⟩
