theorem ct_199r (G0 : pj_G) (hI : pj_Inv G0) (rk : Int32) (rrk : (0 : Int) ≤ rk.toInt ∧ rk.toInt ≤ 0) (p0_ : (pj_fi G0 171 27).toInt ≤ (pj_fi G0 171 17).toInt) (p1_ : (pj_fi G0 171 17).toInt ≤ (pj_fi G0 171 18).toInt) : pj_Y 500 199 [.ref 171, .int rk] G0 (fun v G' => ∃ y : Int32, v = some (.int y) ∧ pj_Inv G' ∧ pj_kpt pj_MY G0 G' ∧ ((0 : Int) ≤ y.toInt ∧ y.toInt ≤ 1) ∧ (((pj_fi G0 171 17).toInt ≤ (pj_fi G' 171 17).toInt ∧ (pj_fi G' 171 17).toInt ≤ (pj_fi G' 171 18).toInt ∧ (pj_fi G' 171 27).toInt + (pj_fi G0 171 17).toInt ≤ (pj_fi G0 171 27).toInt + (pj_fi G' 171 17).toInt ∧ (1 ≤ y.toInt → (pj_fi G' 171 19).toInt = (pj_fi G0 171 19).toInt)) ∧ pj_qp G0 G' ∧ (1 ≤ y.toInt → pj_qm G0 G' 1))) := (pj_ihs_all 480).2 G0 rk hI (by omega) p0_ p1_ (by have h1 := hI.2.1 171 17 (0, 80) rfl; have h2 := hI.2.1 171 18 (0, 80) rfl; have h3 : 0 ≤ (pj_fi G0 171 17).toInt := h1.1; have h4 : (pj_fi G0 171 18).toInt ≤ 80 := h2.2; omega)
/-- copied so far -/
def pj_cq (G : pj_G) (k : Int) : Prop := ∀ j : Nat, (j : Int) < k → pj_ai G 182 j = pj_ai G 183 j
theorem pj_cq_s {G G' : pj_G} {k : Int} (q : pj_cq G k) (r : Nat) (hr : (r : Int) = k) (h1 : ∀ j, pj_ai G' 183 j = pj_ai G 183 j) (h2 : ∀ j : Nat, j < r → pj_ai G' 182 j = pj_ai G 182 j) (h3 : pj_ai G' 182 r = pj_ai G 183 r) : pj_cq G' (k + 1) := fun j hj => by
  by_cases e : j = r
  · subst e
    rw [h3, h1]
  · rw [h2 j (by omega), h1]
    exact q j (by omega)
/-- the steps that were read take no more than there is -/
def pj_vr (G : pj_G) (n : Int) : Prop := ∃ r, pj_vp (fun j => pj_ai G 183 j) n.toNat 0 0 = some r
theorem pj_vr_0 {G : pj_G} {n : Int} (h : n = 0) : pj_vr G n := ⟨0, by rw [h]; rfl⟩
theorem pj_vr_q {G0 G : pj_G} (q : pj_qm G0 G 1) (h : (pj_fi G0 171 27).toInt = 0) : pj_vr G (pj_fi G 171 27).toInt := ⟨0 + 1, by
  have := q.2 0
  rw [h, Int.sub_zero] at this
  exact this⟩
theorem pj_vr_k {G G' : pj_G} {n : Int} (h : ∀ j, pj_ai G' 183 j = pj_ai G 183 j) (q : pj_vr G n) : pj_vr G' n := by
  unfold pj_vr
  rw [show (fun j => pj_ai G' 183 j) = (fun j => pj_ai G 183 j) from funext h]
  exact q
theorem pj_RI_r {G0 G : pj_G} {n : Int} (h0 : pj_RI G0) (e1 : pj_fi G 171 3 = pj_fi G0 171 3) (e2 : pj_fi G 171 4 = pj_fi G0 171 4) (a1 : ∀ j, pj_ai G 173 j = pj_ai G0 173 j) (a2 : ∀ j, pj_ai G 174 j = pj_ai G0 174 j) (hc : pj_cq G n) (hv : pj_vr G n) (hn : (pj_fi G 171 26).toInt = n) : pj_RI G := by
  refine ⟨fun c hc => ?_, ?_⟩
  · rw [e1, a1, a2]
    rw [e2] at hc
    exact h0.1 c hc
  · obtain ⟨r, hr⟩ := hv
    refine ⟨r, ?_⟩
    rw [hn, ← hr]
    exact pj_vp_cg _ _ _ (fun j h1 h2 => hc j (by omega))
def kc_200 : pj_KT := ([(171, 0), (171, 16), (171, 17), (171, 18), (171, 19), (171, 26), (171, 27)], [171, 182, 183], [182, 183])
theorem lp_ct_200 (G0 : pj_G) (hI0 : pj_Inv G0) (p0_ : pj_RI G0) : ∀ mn : Nat, (∀ (G : pj_G) (hI : pj_Inv G) (hK : pj_kpt kc_200 G0 G) (v1 : Int32) (v2 : Int32) (v3 : Int32) (v4 : Int32), ((0 : Int) ≤ v1.toInt ∧ v1.toInt ≤ 80) → ((0 : Int) ≤ v2.toInt ∧ v2.toInt ≤ 1) → ((-81 : Int) ≤ v3.toInt ∧ v3.toInt ≤ 0) → ((0 : Int) ≤ v4.toInt ∧ v4.toInt ≤ 80) → (pj_cq G v4.toInt) → (pj_vr G (pj_fi G 171 27).toInt) → ((pj_fi G 171 26).toInt = (pj_fi G 171 27).toInt ∧ v4.toInt ≤ (pj_fi G 171 27).toInt) → 80 - v4.toInt < (mn : Int) → pj_X 501 pj_m200 G 61 [(0, .ref 171), (1, .int v1), (2, .int v2), (3, .int v3), (4, .int v4)] [] (fun v G' => ∃ y : Int32, v = some (.int y) ∧ pj_Inv G' ∧ pj_kpt kc_200 G0 G' ∧ ((-2147483648 : Int) ≤ y.toInt ∧ y.toInt ≤ 2147483647) ∧ (pj_RI G'))) := by
  have c0_ : ((Int8.ofInt 40).toInt32).toInt = 40 := by decide
  have c1_ : (Int32.ofInt 0).toInt = 0 := by decide
  have c2_ : (Int32.ofInt 1).toInt = 1 := by decide
  intro mn
  induction mn with
  | zero =>
    intro G hI hK v1 v2 v3 v4 rv1 rv2 rv3 rv4 x0_ x1_ x2_ hm
    exfalso
    omega
  | succ mn ih =>
    intro G hI hK v1 v2 v3 v4 rv1 rv2 rv3 rv4 x0_ x1_ x2_ hm
    obtain ⟨y1, hy1⟩ : ∃ z : Int32, z = pj_fi G 171 27 := ⟨_, rfl⟩
    have ey1 : (pj_fi G 171 27).toInt = y1.toInt := by rw [hy1]
    have ry1 : (0 : Int) ≤ y1.toInt ∧ y1.toInt ≤ 80 := by rw [hy1]; exact hI.2.1 171 27 (0, 80) rfl
    obtain ⟨y2, hy2⟩ : ∃ z : Int32, z = pj_fi G 171 17 := ⟨_, rfl⟩
    have ey2 : (pj_fi G 171 17).toInt = y2.toInt := by rw [hy2]
    have ry2 : (0 : Int) ≤ y2.toInt ∧ y2.toInt ≤ 80 := by rw [hy2]; exact hI.2.1 171 17 (0, 80) rfl
    obtain ⟨y3, hy3⟩ : ∃ z : Int32, z = pj_fi G 171 18 := ⟨_, rfl⟩
    have ey3 : (pj_fi G 171 18).toInt = y3.toInt := by rw [hy3]
    have ry3 : (0 : Int) ≤ y3.toInt ∧ y3.toInt ≤ 80 := by rw [hy3]; exact hI.2.1 171 18 (0, 80) rfl
    obtain ⟨y4, hy4⟩ : ∃ z : Int32, z = pj_fi G 171 26 := ⟨_, rfl⟩
    have ey4 : (pj_fi G 171 26).toInt = y4.toInt := by rw [hy4]
    have ry4 : (0 : Int) ≤ y4.toInt ∧ y4.toInt ≤ 80 := by rw [hy4]; exact hI.2.1 171 26 (0, 80) rfl
    refine pj_X_of (fun r h => pj_R_to (G, 64, [(0, .ref 171), (1, .int v1), (2, .int v2), (3, .int v3), (4, .int v4)], [.ref 171, .int v4], 0, 0) 64 3 (fun _ => rfl) h) ?_
    refine pj_X_of (fun r h => pj_T_gi hI rfl rfl h) ?_
    show pj_X _ _ G 67 [(0, .ref 171), (1, .int v1), (2, .int v2), (3, .int v3), (4, .int v4)] [.int (pj_fi G 171 27), .int v4] _
    refine pj_X_eqi (show pj_fi G 171 27 = y1 from hy1.symm) ?_
    cases b5 : pj_c1 .ge v4 y1 with
    | true =>
      have ub5 := pj_u_geT b5
      refine pj_X_of (fun r h => pj_R_icT 90 rfl rfl b5 h) ?_
      refine pj_X_of (fun r h => pj_R_to (G, 91, [(0, .ref 171), (1, .int v1), (2, .int v2), (3, .int v3), (4, .int v4)], [.int (Int32.ofInt 0)], 0, 0) 91 2 (fun _ => rfl) h) ?_
      have q6 : (pj_fi G 171 27).toInt = y1.toInt := by rw [show pj_fi G 171 27 = y1 from hy1.symm]
      have q7 : (pj_fi G 171 17).toInt = y2.toInt := by rw [show pj_fi G 171 17 = y2 from hy2.symm]
      have q8 : (pj_fi G 171 18).toInt = y3.toInt := by rw [show pj_fi G 171 18 = y3 from hy3.symm]
      have q9 : (pj_fi G 171 26).toInt = y4.toInt := by rw [show pj_fi G 171 26 = y4 from hy4.symm]
      exact pj_X_rt rfl rfl ⟨_, rfl, hI, hK, pj_i32 _, pj_RI_r p0_ (hK.1 (171, 3) (by decide)) (hK.1 (171, 4) (by decide)) (fun j => hK.2.2 173 (by decide) j) (fun j => hK.2.2 174 (by decide) j) (n := (pj_fi G 171 27).toInt) (fun j hj => x0_ j (by omega)) x1_ (by omega)⟩
    | false =>
      have ub5 := pj_u_geF b5
      refine pj_X_of (fun r h => pj_R_icF rfl b5 h) ?_
      refine pj_X_of (fun r h => pj_R_to (G, 71, [(0, .ref 171), (1, .int v1), (2, .int v2), (3, .int v3), (4, .int v4)], [.ref 171], 0, 0) 71 2 (fun _ => rfl) h) ?_
      refine pj_X_of (fun r h => pj_T_gr hI rfl rfl rfl h) ?_
      refine pj_X_of (fun r h => pj_R_to (G, 77, [(0, .ref 171), (1, .int v1), (2, .int v2), (3, .int v3), (4, .int v4)], [.ref 171, .int v4, .ref 182], 0, 0) 77 3 (fun _ => rfl) h) ?_
      refine pj_X_of (fun r h => pj_T_gr hI rfl rfl rfl h) ?_
      refine pj_X_of (fun r h => pj_R_to (G, 82, [(0, .ref 171), (1, .int v1), (2, .int v2), (3, .int v3), (4, .int v4)], [.int v4, .ref 183, .int v4, .ref 182], 0, 0) 82 2 (fun _ => rfl) h) ?_
      refine pj_X_of (fun r h => pj_T_il hI rfl rfl (by omega) (by omega) h) ?_
      show pj_X _ _ G 83 [(0, .ref 171), (1, .int v1), (2, .int v2), (3, .int v3), (4, .int v4)] [.int (pj_ai G 183 v4.toInt.toNat), .int v4, .ref 182] _
      obtain ⟨z10, hz10⟩ : ∃ z : Int32, z = pj_ai G 183 v4.toInt.toNat := ⟨_, rfl⟩
      refine pj_X_eqi hz10.symm ?_
      have ez10 : (pj_ai G 183 v4.toInt.toNat).toInt = z10.toInt := by rw [hz10]
      have fz10_0 : (-1 : Int) ≤ z10.toInt ∧ z10.toInt ≤ 3000 ∧ (z10.toInt ≤ 1006 ∨ 2000 ≤ z10.toInt) := by rw [hz10]; exact hI.2.2.1 183 (80, -1, 3000, 1006, 2000) rfl _ (by show _ < 80; omega)
      refine pj_X_of (fun r h => pj_T_is hI rfl rfl (by omega) (by omega) h) ?_
      show pj_X _ _ (pj_wa G 182 v4.toInt.toNat z10) 84 [(0, .ref 171), (1, .int v1), (2, .int v2), (3, .int v3), (4, .int v4)] [] _
      obtain ⟨G11, hG11⟩ : ∃ H, H = pj_wa G 182 v4.toInt.toNat z10 := ⟨_, rfl⟩
      have iG11 : pj_Inv G11 := by rw [hG11]; exact pj_Inv_wa hI rfl (fun q hq => by cases hq; exact ⟨by show (-1 : Int) ≤ _; omega, by show _ ≤ (3000 : Int); omega, by show _ ≤ (1006 : Int) ∨ (2000 : Int) ≤ _; omega⟩) (fun n hn => by cases hn)
      have kG11 : pj_kpt kc_200 G0 G11 := by rw [hG11]; exact pj_kpt_a hK rfl
      rw [← hG11]
      refine pj_X_of (fun r h => pj_R_to (G11, 87, [(4, .int (v4 + Int32.ofInt 1)), (0, .ref 171), (1, .int v1), (2, .int v2), (3, .int v3)], [], 0, 0) 87 2 (fun _ => rfl) h) ?_
      obtain ⟨z12, hz12⟩ : ∃ z : Int32, z = v4 + Int32.ofInt 1 := ⟨_, rfl⟩
      rw [← hz12]
      have fz12_0 : z12.toInt = v4.toInt + (Int32.ofInt 1).toInt := by rw [hz12]; exact pj_addI (by have := pj_i32 v4; have := pj_i32 (Int32.ofInt 1); omega) (by have := pj_i32 v4; have := pj_i32 (Int32.ofInt 1); omega)
      refine pj_X_of (fun r h => pj_R_to (G11, 61, [(4, .int z12), (0, .ref 171), (1, .int v1), (2, .int v2), (3, .int v3)], [], 0, 0) 61 2 (fun _ => rfl) h) ?_
      have q13 : (pj_fi G11 171 27).toInt = y1.toInt := by rw [show pj_fi G11 171 27 = y1 from by rw [hG11, pj_fi_wa]; exact hy1.symm]
      have q14 : (pj_fi G11 171 17).toInt = y2.toInt := by rw [show pj_fi G11 171 17 = y2 from by rw [hG11, pj_fi_wa]; exact hy2.symm]
      have q15 : (pj_fi G11 171 18).toInt = y3.toInt := by rw [show pj_fi G11 171 18 = y3 from by rw [hG11, pj_fi_wa]; exact hy3.symm]
      have q16 : (pj_fi G11 171 26).toInt = y4.toInt := by rw [show pj_fi G11 171 26 = y4 from by rw [hG11, pj_fi_wa]; exact hy4.symm]
      have h3 : pj_ai G11 182 v4.toInt.toNat = pj_ai G 183 v4.toInt.toNat := by rw [hG11, pj_ai_wa_eq hI.1 rfl, hz10]
      exact pj_X_sub [(0, .ref 171), (1, .int v1), (2, .int v2), (3, .int v3), (4, .int z12)] (show List.Nodup [0, 1, 2, 3, 4] by decide) ⟨rfl, rfl, rfl, rfl, rfl, trivial⟩ (ih G11 iG11 kG11 v1 v2 v3 z12 ⟨by omega, by omega⟩ ⟨by omega, by omega⟩ ⟨by omega, by omega⟩ ⟨by omega, by omega⟩ (by rw [show z12.toInt = v4.toInt + 1 by omega]; exact pj_cq_s x0_ v4.toInt.toNat (by omega) (fun j => by rw [hG11, pj_ai_wa_ne _ _ _ _ _ _ (by decide)]) (fun j hj => by rw [hG11, pj_ai_wa_nj _ _ _ _ _ (by omega)]) h3) (by rw [show pj_fi G11 171 27 = pj_fi G 171 27 from by rw [hG11, pj_fi_wa]]; exact pj_vr_k (fun j => by rw [hG11, pj_ai_wa_ne _ _ _ _ _ _ (by decide)]) x1_) (by omega) (by omega))
theorem ct_200 (G0 : pj_G) (hI : pj_Inv G0) (p0_ : pj_RI G0) : pj_Y 502 200 [.ref 171] G0 (fun v G' => ∃ y : Int32, v = some (.int y) ∧ pj_Inv G' ∧ pj_kpt kc_200 G0 G' ∧ ((-2147483648 : Int) ≤ y.toInt ∧ y.toInt ≤ 2147483647) ∧ (pj_RI G')) := by
  have c0_ : ((Int8.ofInt 40).toInt32).toInt = 40 := by decide
  have c1_ : (Int32.ofInt 0).toInt = 0 := by decide
  have c2_ : (Int32.ofInt 1).toInt = 1 := by decide
  refine pj_Y_X (M := pj_m200) rfl rfl (Nat.le_of_ble_eq_true rfl) ?_
  have hK : pj_kpt kc_200 G0 G0 := pj_kpt_r _ _
  show pj_X _ _ G0 0 [(0, .ref 171)] [] _
  obtain ⟨y17, hy17⟩ : ∃ z : Int32, z = pj_fi G0 171 27 := ⟨_, rfl⟩
  have ey17 : (pj_fi G0 171 27).toInt = y17.toInt := by rw [hy17]
  have ry17 : (0 : Int) ≤ y17.toInt ∧ y17.toInt ≤ 80 := by rw [hy17]; exact hI.2.1 171 27 (0, 80) rfl
  obtain ⟨y18, hy18⟩ : ∃ z : Int32, z = pj_fi G0 171 17 := ⟨_, rfl⟩
  have ey18 : (pj_fi G0 171 17).toInt = y18.toInt := by rw [hy18]
  have ry18 : (0 : Int) ≤ y18.toInt ∧ y18.toInt ≤ 80 := by rw [hy18]; exact hI.2.1 171 17 (0, 80) rfl
  obtain ⟨y19, hy19⟩ : ∃ z : Int32, z = pj_fi G0 171 18 := ⟨_, rfl⟩
  have ey19 : (pj_fi G0 171 18).toInt = y19.toInt := by rw [hy19]
  have ry19 : (0 : Int) ≤ y19.toInt ∧ y19.toInt ≤ 80 := by rw [hy19]; exact hI.2.1 171 18 (0, 80) rfl
  obtain ⟨y20, hy20⟩ : ∃ z : Int32, z = pj_fi G0 171 26 := ⟨_, rfl⟩
  have ey20 : (pj_fi G0 171 26).toInt = y20.toInt := by rw [hy20]
  have ry20 : (0 : Int) ≤ y20.toInt ∧ y20.toInt ≤ 80 := by rw [hy20]; exact hI.2.1 171 26 (0, 80) rfl
  refine pj_X_of (fun r h => pj_R_to (G0, 2, [(0, .ref 171)], [.int (Int32.ofInt 0), .ref 171], 0, 0) 2 3 (fun _ => rfl) h) ?_
  refine pj_X_of (fun r h => pj_T_pf hI rfl rfl rfl h) ?_
  show pj_X _ _ (pj_wv G0 171 0 (.int (Int32.ofInt 0))) 5 [(0, .ref 171)] [] _
  obtain ⟨G21, hG21⟩ : ∃ H, H = pj_wv G0 171 0 (.int (Int32.ofInt 0)) := ⟨_, rfl⟩
  have iG21 : pj_Inv G21 := by rw [hG21]; exact pj_Inv_wi hI (ci := 12) rfl (fun q hq => by cases hq)
  have kG21 : pj_kpt kc_200 G0 G21 := by rw [hG21]; exact pj_kpt_v hK rfl
  rw [← hG21]
  refine pj_X_of (fun r h => pj_R_to (G21, 8, [(0, .ref 171)], [.int ((Int8.ofInt 40).toInt32), .ref 171], 0, 0) 8 3 (fun _ => rfl) h) ?_
  have q22 : (pj_fi G21 171 27).toInt = y17.toInt := by rw [show pj_fi G21 171 27 = y17 from by rw [hG21, pj_fi_wv_ne _ _ _ _ _ _ (by decide)]; exact hy17.symm]
  have q23 : (pj_fi G21 171 17).toInt = y18.toInt := by rw [show pj_fi G21 171 17 = y18 from by rw [hG21, pj_fi_wv_ne _ _ _ _ _ _ (by decide)]; exact hy18.symm]
  have q24 : (pj_fi G21 171 18).toInt = y19.toInt := by rw [show pj_fi G21 171 18 = y19 from by rw [hG21, pj_fi_wv_ne _ _ _ _ _ _ (by decide)]; exact hy19.symm]
  have q25 : (pj_fi G21 171 26).toInt = y20.toInt := by rw [show pj_fi G21 171 26 = y20 from by rw [hG21, pj_fi_wv_ne _ _ _ _ _ _ (by decide)]; exact hy20.symm]
  refine pj_X_ca (vs := [.ref 171, .int ((Int8.ofInt 40).toInt32)]) rfl (fun _ => rfl) ⟨Nat.le_of_ble_eq_true rfl, Nat.le_of_ble_eq_true rfl, pj_T_rcv iG21 rfl⟩ ⟨rfl, rfl⟩ (pj_Y_up (by decide) (ct_181e G21 iG21 ((Int8.ofInt 40).toInt32) ⟨by omega, by omega⟩)) ?_
  rintro _ G27 ⟨y26, rfl, iG27, jG27, ry26, ey26⟩
  have kG27 : pj_kpt kc_200 G0 G27 := pj_kpt_t kG21 (pj_kpt_s jG27 rfl)
  have q28 : (pj_fi G27 171 27).toInt = (pj_fi G21 171 27).toInt := by rw [jG27.1 (171, 27) (by decide)]
  have q29 : (pj_fi G27 171 26).toInt = (pj_fi G21 171 26).toInt := by rw [jG27.1 (171, 26) (by decide)]
  obtain ⟨y30, hy30⟩ : ∃ z : Int32, z = pj_fi G27 171 27 := ⟨_, rfl⟩
  have ey30 : (pj_fi G27 171 27).toInt = y30.toInt := by rw [hy30]
  have ry30 : (0 : Int) ≤ y30.toInt ∧ y30.toInt ≤ 80 := by rw [hy30]; exact iG27.2.1 171 27 (0, 80) rfl
  obtain ⟨y31, hy31⟩ : ∃ z : Int32, z = pj_fi G27 171 17 := ⟨_, rfl⟩
  have ey31 : (pj_fi G27 171 17).toInt = y31.toInt := by rw [hy31]
  have ry31 : (0 : Int) ≤ y31.toInt ∧ y31.toInt ≤ 80 := by rw [hy31]; exact iG27.2.1 171 17 (0, 80) rfl
  obtain ⟨y32, hy32⟩ : ∃ z : Int32, z = pj_fi G27 171 18 := ⟨_, rfl⟩
  have ey32 : (pj_fi G27 171 18).toInt = y32.toInt := by rw [hy32]
  have ry32 : (0 : Int) ≤ y32.toInt ∧ y32.toInt ≤ 80 := by rw [hy32]; exact iG27.2.1 171 18 (0, 80) rfl
  obtain ⟨y33, hy33⟩ : ∃ z : Int32, z = pj_fi G27 171 26 := ⟨_, rfl⟩
  have ey33 : (pj_fi G27 171 26).toInt = y33.toInt := by rw [hy33]
  have ry33 : (0 : Int) ≤ y33.toInt ∧ y33.toInt ≤ 80 := by rw [hy33]; exact iG27.2.1 171 26 (0, 80) rfl
  show pj_X _ _ G27 11 [(0, .ref 171)] [.int y26] _
  refine pj_X_of (fun r h => pj_R_to (G27, 14, [(1, .int y26), (0, .ref 171)], [.int (Int32.ofInt 0), .ref 171], 0, 0) 14 4 (fun _ => rfl) h) ?_
  refine pj_X_of (fun r h => pj_T_pf iG27 rfl rfl rfl h) ?_
  show pj_X _ _ (pj_wv G27 171 27 (.int (Int32.ofInt 0))) 17 [(1, .int y26), (0, .ref 171)] [] _
  obtain ⟨G34, hG34⟩ : ∃ H, H = pj_wv G27 171 27 (.int (Int32.ofInt 0)) := ⟨_, rfl⟩
  have iG34 : pj_Inv G34 := by rw [hG34]; exact pj_Inv_wi iG27 (ci := 12) rfl (fun q hq => by cases hq; exact ⟨by show (0 : Int) ≤ _; omega, by show _ ≤ (80 : Int); omega⟩)
  have kG34 : pj_kpt kc_200 G0 G34 := by rw [hG34]; exact pj_kpt_v kG27 rfl
  rw [← hG34]
  refine pj_X_of (fun r h => pj_R_to (G34, 18, [(1, .int y26), (0, .ref 171)], [.int y26], 0, 0) 18 2 (fun _ => rfl) h) ?_
  cases b35 : pj_c1 .eq y26 0 with
  | true =>
    have ub35 := pj_u0_eqT b35
    refine pj_X_of (fun r h => pj_R_ifT 29 rfl rfl b35 h) ?_
    refine pj_X_of (fun r h => pj_R_to (G34, 40, [(2, .int (Int32.ofInt 1)), (1, .int y26), (0, .ref 171)], [.int (Int32.ofInt 1), .int ((Int8.ofInt 40).toInt32), .int y26, .ref 171], 0, 0) 40 8 (fun _ => rfl) h) ?_
    have q36 : (pj_fi G34 171 27).toInt = (Int32.ofInt 0).toInt := by rw [show pj_fi G34 171 27 = Int32.ofInt 0 from by rw [hG34]; exact pj_fi_wi iG27.1 (ci := 12) rfl _]
    have q37 : (pj_fi G34 171 17).toInt = y31.toInt := by rw [show pj_fi G34 171 17 = y31 from by rw [hG34, pj_fi_wv_ne _ _ _ _ _ _ (by decide)]; exact hy31.symm]
    have q38 : (pj_fi G34 171 18).toInt = y32.toInt := by rw [show pj_fi G34 171 18 = y32 from by rw [hG34, pj_fi_wv_ne _ _ _ _ _ _ (by decide)]; exact hy32.symm]
    have q39 : (pj_fi G34 171 26).toInt = y33.toInt := by rw [show pj_fi G34 171 26 = y33 from by rw [hG34, pj_fi_wv_ne _ _ _ _ _ _ (by decide)]; exact hy33.symm]
    refine pj_X_ca (vs := [.ref 171, .int y26, .int ((Int8.ofInt 40).toInt32), .int (Int32.ofInt 1)]) rfl (fun _ => rfl) ⟨Nat.le_of_ble_eq_true rfl, Nat.le_of_ble_eq_true rfl, pj_T_rcv iG34 rfl⟩ ⟨rfl, rfl⟩ (pj_Y_up (by decide) (ct_188 G34 iG34 y26 ((Int8.ofInt 40).toInt32) (Int32.ofInt 1) ⟨by omega, by omega⟩ ⟨by omega, by omega⟩ ⟨by omega, by omega⟩)) ?_
    rintro _ _ ⟨y40, rfl, rfl, ry40, ey40⟩
    show pj_X _ _ G34 43 [(2, .int (Int32.ofInt 1)), (1, .int y26), (0, .ref 171)] [.int y40] _
    refine pj_X_of (fun r h => pj_R_to (G34, 45, [(3, .int y40), (2, .int (Int32.ofInt 1)), (1, .int y26), (0, .ref 171)], [.int y40], 0, 0) 45 3 (fun _ => rfl) h) ?_
    cases b41 : pj_c1 .ge y40 0 with
    | true =>
      have ub41 := pj_u0_geT b41
      refine pj_X_of (fun r h => pj_R_ifT 50 rfl rfl b41 h) ?_
      refine pj_X_of (fun r h => pj_R_to (G34, 52, [(3, .int y40), (2, .int (Int32.ofInt 1)), (1, .int y26), (0, .ref 171)], [.ref 171, .ref 171], 0, 0) 52 3 (fun _ => rfl) h) ?_
      refine pj_X_of (fun r h => pj_T_gi iG34 rfl rfl h) ?_
      show pj_X _ _ G34 55 [(3, .int y40), (2, .int (Int32.ofInt 1)), (1, .int y26), (0, .ref 171)] [.int (pj_fi G34 171 27), .ref 171] _
      refine pj_X_eqi (show pj_fi G34 171 27 = Int32.ofInt 0 from by rw [hG34]; exact pj_fi_wi iG27.1 (ci := 12) rfl _) ?_
      refine pj_X_of (fun r h => pj_T_pf iG34 rfl rfl rfl h) ?_
      show pj_X _ _ (pj_wv G34 171 26 (.int (Int32.ofInt 0))) 58 [(3, .int y40), (2, .int (Int32.ofInt 1)), (1, .int y26), (0, .ref 171)] [] _
      obtain ⟨G42, hG42⟩ : ∃ H, H = pj_wv G34 171 26 (.int (Int32.ofInt 0)) := ⟨_, rfl⟩
      have iG42 : pj_Inv G42 := by rw [hG42]; exact pj_Inv_wi iG34 (ci := 12) rfl (fun q hq => by cases hq; exact ⟨by show (0 : Int) ≤ _; omega, by show _ ≤ (80 : Int); omega⟩)
      have kG42 : pj_kpt kc_200 G0 G42 := by rw [hG42]; exact pj_kpt_v kG34 rfl
      rw [← hG42]
      refine pj_X_of (fun r h => pj_R_to (G42, 61, [(4, .int (Int32.ofInt 0)), (3, .int y40), (2, .int (Int32.ofInt 1)), (1, .int y26), (0, .ref 171)], [], 0, 0) 61 3 (fun _ => rfl) h) ?_
      have q43 : (pj_fi G42 171 27).toInt = (Int32.ofInt 0).toInt := by rw [show pj_fi G42 171 27 = Int32.ofInt 0 from by rw [hG42, pj_fi_wv_ne _ _ _ _ _ _ (by decide)]; exact (by rw [hG34]; exact pj_fi_wi iG27.1 (ci := 12) rfl _)]
      have q44 : (pj_fi G42 171 17).toInt = y31.toInt := by rw [show pj_fi G42 171 17 = y31 from by rw [hG42, pj_fi_wv_ne _ _ _ _ _ _ (by decide)]; exact (by rw [hG34, pj_fi_wv_ne _ _ _ _ _ _ (by decide)]; exact hy31.symm)]
      have q45 : (pj_fi G42 171 18).toInt = y32.toInt := by rw [show pj_fi G42 171 18 = y32 from by rw [hG42, pj_fi_wv_ne _ _ _ _ _ _ (by decide)]; exact (by rw [hG34, pj_fi_wv_ne _ _ _ _ _ _ (by decide)]; exact hy32.symm)]
      have q46 : (pj_fi G42 171 26).toInt = (Int32.ofInt 0).toInt := by rw [show pj_fi G42 171 26 = Int32.ofInt 0 from by rw [hG42]; exact pj_fi_wi iG34.1 (ci := 12) rfl _]
      exact pj_X_sub [(0, .ref 171), (1, .int y26), (2, .int (Int32.ofInt 1)), (3, .int y40), (4, .int (Int32.ofInt 0))] (show List.Nodup [0, 1, 2, 3, 4] by decide) ⟨rfl, rfl, rfl, rfl, rfl, trivial⟩ ((lp_ct_200 G0 hI   p0_ 81) G42 iG42 kG42 y26 (Int32.ofInt 1) y40 (Int32.ofInt 0) ⟨by omega, by omega⟩ ⟨by omega, by omega⟩ ⟨by omega, by omega⟩ ⟨by omega, by omega⟩ (fun j hj => absurd hj (by omega)) (pj_vr_0 (by omega)) (by omega) (by omega))
    | false =>
      have ub41 := pj_u0_geF b41
      refine pj_X_of (fun r h => pj_R_ifF rfl b41 h) ?_
      refine pj_X_of (fun r h => pj_R_to (G34, 49, [(3, .int y40), (2, .int (Int32.ofInt 1)), (1, .int y26), (0, .ref 171)], [.int y40], 0, 0) 49 2 (fun _ => rfl) h) ?_
      have q47 : (pj_fi G34 171 27).toInt = (Int32.ofInt 0).toInt := by rw [show pj_fi G34 171 27 = Int32.ofInt 0 from by rw [hG34]; exact pj_fi_wi iG27.1 (ci := 12) rfl _]
      have q48 : (pj_fi G34 171 17).toInt = y31.toInt := by rw [show pj_fi G34 171 17 = y31 from by rw [hG34, pj_fi_wv_ne _ _ _ _ _ _ (by decide)]; exact hy31.symm]
      have q49 : (pj_fi G34 171 18).toInt = y32.toInt := by rw [show pj_fi G34 171 18 = y32 from by rw [hG34, pj_fi_wv_ne _ _ _ _ _ _ (by decide)]; exact hy32.symm]
      have q50 : (pj_fi G34 171 26).toInt = y33.toInt := by rw [show pj_fi G34 171 26 = y33 from by rw [hG34, pj_fi_wv_ne _ _ _ _ _ _ (by decide)]; exact hy33.symm]
      have t51 : pj_kpt ([(171, 0), (171, 16), (171, 17), (171, 18), (171, 19), (171, 27)], [171], []) G0 G0 := pj_kpt_r _ _
      have t52 : pj_kpt ([(171, 0), (171, 16), (171, 17), (171, 18), (171, 19), (171, 27)], [171], []) G0 G21 := by rw [hG21]; exact pj_kpt_v t51 rfl
      have t53 : pj_kpt ([(171, 0), (171, 16), (171, 17), (171, 18), (171, 19), (171, 27)], [171], []) G0 G27 := pj_kpt_t t52 (pj_kpt_s jG27 rfl)
      have t54 : pj_kpt ([(171, 0), (171, 16), (171, 17), (171, 18), (171, 19), (171, 27)], [171], []) G0 G34 := by rw [hG34]; exact pj_kpt_v t53 rfl
      exact pj_X_rt rfl rfl ⟨_, rfl, iG34, kG34, pj_i32 _, pj_RI_k p0_ t54 rfl⟩
  | false =>
    have ub35 := pj_u0_eqF b35
    refine pj_X_of (fun r h => pj_R_ifF rfl b35 h) ?_
    refine pj_X_of (fun r h => pj_R_to (G34, 23, [(1, .int y26), (0, .ref 171)], [.int (Int32.ofInt 0), .ref 171], 0, 0) 23 3 (fun _ => rfl) h) ?_
    have q55 : (pj_fi G34 171 27).toInt = (Int32.ofInt 0).toInt := by rw [show pj_fi G34 171 27 = Int32.ofInt 0 from by rw [hG34]; exact pj_fi_wi iG27.1 (ci := 12) rfl _]
    have q56 : (pj_fi G34 171 17).toInt = y31.toInt := by rw [show pj_fi G34 171 17 = y31 from by rw [hG34, pj_fi_wv_ne _ _ _ _ _ _ (by decide)]; exact hy31.symm]
    have q57 : (pj_fi G34 171 18).toInt = y32.toInt := by rw [show pj_fi G34 171 18 = y32 from by rw [hG34, pj_fi_wv_ne _ _ _ _ _ _ (by decide)]; exact hy32.symm]
    have q58 : (pj_fi G34 171 26).toInt = y33.toInt := by rw [show pj_fi G34 171 26 = y33 from by rw [hG34, pj_fi_wv_ne _ _ _ _ _ _ (by decide)]; exact hy33.symm]
    refine pj_X_ca (vs := [.ref 171, .int (Int32.ofInt 0)]) rfl (fun _ => rfl) ⟨Nat.le_of_ble_eq_true rfl, Nat.le_of_ble_eq_true rfl, pj_T_rcv iG34 rfl⟩ ⟨rfl, rfl⟩ (pj_Y_up (by decide) (ct_199r G34 iG34 (Int32.ofInt 0) ⟨by omega, by omega⟩ (by omega) (by omega))) ?_
    rintro _ G60 ⟨y59, rfl, iG60, jG60, ry59, ey59⟩
    have kG60 : pj_kpt kc_200 G0 G60 := pj_kpt_t kG34 (pj_kpt_s jG60 rfl)
    have q61 : (pj_fi G60 171 18).toInt = (pj_fi G34 171 18).toInt := by rw [jG60.1 (171, 18) (by decide)]
    have q62 : (pj_fi G60 171 26).toInt = (pj_fi G34 171 26).toInt := by rw [jG60.1 (171, 26) (by decide)]
    obtain ⟨y63, hy63⟩ : ∃ z : Int32, z = pj_fi G60 171 27 := ⟨_, rfl⟩
    have ey63 : (pj_fi G60 171 27).toInt = y63.toInt := by rw [hy63]
    have ry63 : (0 : Int) ≤ y63.toInt ∧ y63.toInt ≤ 80 := by rw [hy63]; exact iG60.2.1 171 27 (0, 80) rfl
    obtain ⟨y64, hy64⟩ : ∃ z : Int32, z = pj_fi G60 171 17 := ⟨_, rfl⟩
    have ey64 : (pj_fi G60 171 17).toInt = y64.toInt := by rw [hy64]
    have ry64 : (0 : Int) ≤ y64.toInt ∧ y64.toInt ≤ 80 := by rw [hy64]; exact iG60.2.1 171 17 (0, 80) rfl
    obtain ⟨y65, hy65⟩ : ∃ z : Int32, z = pj_fi G60 171 18 := ⟨_, rfl⟩
    have ey65 : (pj_fi G60 171 18).toInt = y65.toInt := by rw [hy65]
    have ry65 : (0 : Int) ≤ y65.toInt ∧ y65.toInt ≤ 80 := by rw [hy65]; exact iG60.2.1 171 18 (0, 80) rfl
    obtain ⟨y66, hy66⟩ : ∃ z : Int32, z = pj_fi G60 171 26 := ⟨_, rfl⟩
    have ey66 : (pj_fi G60 171 26).toInt = y66.toInt := by rw [hy66]
    have ry66 : (0 : Int) ≤ y66.toInt ∧ y66.toInt ≤ 80 := by rw [hy66]; exact iG60.2.1 171 26 (0, 80) rfl
    show pj_X _ _ G60 26 [(1, .int y26), (0, .ref 171)] [.int y59] _
    cases b67 : pj_c1 .eq y59 0 with
    | true =>
      have ub67 := pj_u0_eqT b67
      refine pj_X_of (fun r h => pj_R_ifT 33 rfl rfl b67 h) ?_
      refine pj_X_of (fun r h => pj_R_to (G60, 40, [(2, .int (Int32.ofInt 0)), (1, .int y26), (0, .ref 171)], [.int (Int32.ofInt 0), .int ((Int8.ofInt 40).toInt32), .int y26, .ref 171], 0, 0) 40 7 (fun _ => rfl) h) ?_
      have q68 : (pj_fi G60 171 27).toInt = y63.toInt := by rw [show pj_fi G60 171 27 = y63 from hy63.symm]
      have q69 : (pj_fi G60 171 17).toInt = y64.toInt := by rw [show pj_fi G60 171 17 = y64 from hy64.symm]
      have q70 : (pj_fi G60 171 18).toInt = y65.toInt := by rw [show pj_fi G60 171 18 = y65 from hy65.symm]
      have q71 : (pj_fi G60 171 26).toInt = y66.toInt := by rw [show pj_fi G60 171 26 = y66 from hy66.symm]
      refine pj_X_ca (vs := [.ref 171, .int y26, .int ((Int8.ofInt 40).toInt32), .int (Int32.ofInt 0)]) rfl (fun _ => rfl) ⟨Nat.le_of_ble_eq_true rfl, Nat.le_of_ble_eq_true rfl, pj_T_rcv iG60 rfl⟩ ⟨rfl, rfl⟩ (pj_Y_up (by decide) (ct_188 G60 iG60 y26 ((Int8.ofInt 40).toInt32) (Int32.ofInt 0) ⟨by omega, by omega⟩ ⟨by omega, by omega⟩ ⟨by omega, by omega⟩)) ?_
      rintro _ _ ⟨y72, rfl, rfl, ry72, ey72⟩
      show pj_X _ _ G60 43 [(2, .int (Int32.ofInt 0)), (1, .int y26), (0, .ref 171)] [.int y72] _
      refine pj_X_of (fun r h => pj_R_to (G60, 45, [(3, .int y72), (2, .int (Int32.ofInt 0)), (1, .int y26), (0, .ref 171)], [.int y72], 0, 0) 45 3 (fun _ => rfl) h) ?_
      cases b73 : pj_c1 .ge y72 0 with
      | true =>
        have ub73 := pj_u0_geT b73
        refine pj_X_of (fun r h => pj_R_ifT 50 rfl rfl b73 h) ?_
        refine pj_X_of (fun r h => pj_R_to (G60, 52, [(3, .int y72), (2, .int (Int32.ofInt 0)), (1, .int y26), (0, .ref 171)], [.ref 171, .ref 171], 0, 0) 52 3 (fun _ => rfl) h) ?_
        refine pj_X_of (fun r h => pj_T_gi iG60 rfl rfl h) ?_
        show pj_X _ _ G60 55 [(3, .int y72), (2, .int (Int32.ofInt 0)), (1, .int y26), (0, .ref 171)] [.int (pj_fi G60 171 27), .ref 171] _
        refine pj_X_eqi (show pj_fi G60 171 27 = y63 from hy63.symm) ?_
        refine pj_X_of (fun r h => pj_T_pf iG60 rfl rfl rfl h) ?_
        show pj_X _ _ (pj_wv G60 171 26 (.int y63)) 58 [(3, .int y72), (2, .int (Int32.ofInt 0)), (1, .int y26), (0, .ref 171)] [] _
        obtain ⟨G74, hG74⟩ : ∃ H, H = pj_wv G60 171 26 (.int y63) := ⟨_, rfl⟩
        have iG74 : pj_Inv G74 := by rw [hG74]; exact pj_Inv_wi iG60 (ci := 12) rfl (fun q hq => by cases hq; exact ⟨by show (0 : Int) ≤ _; omega, by show _ ≤ (80 : Int); omega⟩)
        have kG74 : pj_kpt kc_200 G0 G74 := by rw [hG74]; exact pj_kpt_v kG60 rfl
        rw [← hG74]
        refine pj_X_of (fun r h => pj_R_to (G74, 61, [(4, .int (Int32.ofInt 0)), (3, .int y72), (2, .int (Int32.ofInt 0)), (1, .int y26), (0, .ref 171)], [], 0, 0) 61 3 (fun _ => rfl) h) ?_
        have q75 : (pj_fi G74 171 27).toInt = y63.toInt := by rw [show pj_fi G74 171 27 = y63 from by rw [hG74, pj_fi_wv_ne _ _ _ _ _ _ (by decide)]; exact hy63.symm]
        have q76 : (pj_fi G74 171 17).toInt = y64.toInt := by rw [show pj_fi G74 171 17 = y64 from by rw [hG74, pj_fi_wv_ne _ _ _ _ _ _ (by decide)]; exact hy64.symm]
        have q77 : (pj_fi G74 171 18).toInt = y65.toInt := by rw [show pj_fi G74 171 18 = y65 from by rw [hG74, pj_fi_wv_ne _ _ _ _ _ _ (by decide)]; exact hy65.symm]
        have q78 : (pj_fi G74 171 26).toInt = y63.toInt := by rw [show pj_fi G74 171 26 = y63 from by rw [hG74]; exact pj_fi_wi iG60.1 (ci := 12) rfl _]
        have hv1 : pj_vr G60 (pj_fi G60 171 27).toInt := pj_vr_q (ey59.2.2 (by omega)) (by omega)
        exact pj_X_sub [(0, .ref 171), (1, .int y26), (2, .int (Int32.ofInt 0)), (3, .int y72), (4, .int (Int32.ofInt 0))] (show List.Nodup [0, 1, 2, 3, 4] by decide) ⟨rfl, rfl, rfl, rfl, rfl, trivial⟩ ((lp_ct_200 G0 hI   p0_ 81) G74 iG74 kG74 y26 (Int32.ofInt 0) y72 (Int32.ofInt 0) ⟨by omega, by omega⟩ ⟨by omega, by omega⟩ ⟨by omega, by omega⟩ ⟨by omega, by omega⟩ (fun j hj => absurd hj (by omega)) (by rw [show pj_fi G74 171 27 = pj_fi G60 171 27 from by rw [hG74, pj_fi_wv_ne _ _ _ _ _ _ (by decide)]]; exact pj_vr_k (fun j => by rw [hG74, pj_ai_wv]) hv1) (by omega) (by omega))
      | false =>
        have ub73 := pj_u0_geF b73
        refine pj_X_of (fun r h => pj_R_ifF rfl b73 h) ?_
        refine pj_X_of (fun r h => pj_R_to (G60, 49, [(3, .int y72), (2, .int (Int32.ofInt 0)), (1, .int y26), (0, .ref 171)], [.int y72], 0, 0) 49 2 (fun _ => rfl) h) ?_
        have q79 : (pj_fi G60 171 27).toInt = y63.toInt := by rw [show pj_fi G60 171 27 = y63 from hy63.symm]
        have q80 : (pj_fi G60 171 17).toInt = y64.toInt := by rw [show pj_fi G60 171 17 = y64 from hy64.symm]
        have q81 : (pj_fi G60 171 18).toInt = y65.toInt := by rw [show pj_fi G60 171 18 = y65 from hy65.symm]
        have q82 : (pj_fi G60 171 26).toInt = y66.toInt := by rw [show pj_fi G60 171 26 = y66 from hy66.symm]
        have t83 : pj_kpt ([(171, 0), (171, 16), (171, 17), (171, 18), (171, 19), (171, 27)], [171, 183], [183]) G0 G0 := pj_kpt_r _ _
        have t84 : pj_kpt ([(171, 0), (171, 16), (171, 17), (171, 18), (171, 19), (171, 27)], [171, 183], [183]) G0 G21 := by rw [hG21]; exact pj_kpt_v t83 rfl
        have t85 : pj_kpt ([(171, 0), (171, 16), (171, 17), (171, 18), (171, 19), (171, 27)], [171, 183], [183]) G0 G27 := pj_kpt_t t84 (pj_kpt_s jG27 rfl)
        have t86 : pj_kpt ([(171, 0), (171, 16), (171, 17), (171, 18), (171, 19), (171, 27)], [171, 183], [183]) G0 G34 := by rw [hG34]; exact pj_kpt_v t85 rfl
        have t87 : pj_kpt ([(171, 0), (171, 16), (171, 17), (171, 18), (171, 19), (171, 27)], [171, 183], [183]) G0 G60 := pj_kpt_t t86 (pj_kpt_s jG60 rfl)
        exact pj_X_rt rfl rfl ⟨_, rfl, iG60, kG60, pj_i32 _, pj_RI_k p0_ t87 rfl⟩
    | false =>
      have ub67 := pj_u0_eqF b67
      refine pj_X_of (fun r h => pj_R_ifF rfl b67 h) ?_
      refine pj_X_of (fun r h => pj_R_to (G60, 40, [(2, .int (Int32.ofInt 1)), (1, .int y26), (0, .ref 171)], [.int (Int32.ofInt 1), .int ((Int8.ofInt 40).toInt32), .int y26, .ref 171], 0, 0) 40 8 (fun _ => rfl) h) ?_
      have q88 : (pj_fi G60 171 27).toInt = y63.toInt := by rw [show pj_fi G60 171 27 = y63 from hy63.symm]
      have q89 : (pj_fi G60 171 17).toInt = y64.toInt := by rw [show pj_fi G60 171 17 = y64 from hy64.symm]
      have q90 : (pj_fi G60 171 18).toInt = y65.toInt := by rw [show pj_fi G60 171 18 = y65 from hy65.symm]
      have q91 : (pj_fi G60 171 26).toInt = y66.toInt := by rw [show pj_fi G60 171 26 = y66 from hy66.symm]
      refine pj_X_ca (vs := [.ref 171, .int y26, .int ((Int8.ofInt 40).toInt32), .int (Int32.ofInt 1)]) rfl (fun _ => rfl) ⟨Nat.le_of_ble_eq_true rfl, Nat.le_of_ble_eq_true rfl, pj_T_rcv iG60 rfl⟩ ⟨rfl, rfl⟩ (pj_Y_up (by decide) (ct_188 G60 iG60 y26 ((Int8.ofInt 40).toInt32) (Int32.ofInt 1) ⟨by omega, by omega⟩ ⟨by omega, by omega⟩ ⟨by omega, by omega⟩)) ?_
      rintro _ _ ⟨y92, rfl, rfl, ry92, ey92⟩
      show pj_X _ _ G60 43 [(2, .int (Int32.ofInt 1)), (1, .int y26), (0, .ref 171)] [.int y92] _
      refine pj_X_of (fun r h => pj_R_to (G60, 45, [(3, .int y92), (2, .int (Int32.ofInt 1)), (1, .int y26), (0, .ref 171)], [.int y92], 0, 0) 45 3 (fun _ => rfl) h) ?_
      cases b93 : pj_c1 .ge y92 0 with
      | true =>
        have ub93 := pj_u0_geT b93
        refine pj_X_of (fun r h => pj_R_ifT 50 rfl rfl b93 h) ?_
        refine pj_X_of (fun r h => pj_R_to (G60, 52, [(3, .int y92), (2, .int (Int32.ofInt 1)), (1, .int y26), (0, .ref 171)], [.ref 171, .ref 171], 0, 0) 52 3 (fun _ => rfl) h) ?_
        refine pj_X_of (fun r h => pj_T_gi iG60 rfl rfl h) ?_
        show pj_X _ _ G60 55 [(3, .int y92), (2, .int (Int32.ofInt 1)), (1, .int y26), (0, .ref 171)] [.int (pj_fi G60 171 27), .ref 171] _
        refine pj_X_eqi (show pj_fi G60 171 27 = y63 from hy63.symm) ?_
        refine pj_X_of (fun r h => pj_T_pf iG60 rfl rfl rfl h) ?_
        show pj_X _ _ (pj_wv G60 171 26 (.int y63)) 58 [(3, .int y92), (2, .int (Int32.ofInt 1)), (1, .int y26), (0, .ref 171)] [] _
        obtain ⟨G94, hG94⟩ : ∃ H, H = pj_wv G60 171 26 (.int y63) := ⟨_, rfl⟩
        have iG94 : pj_Inv G94 := by rw [hG94]; exact pj_Inv_wi iG60 (ci := 12) rfl (fun q hq => by cases hq; exact ⟨by show (0 : Int) ≤ _; omega, by show _ ≤ (80 : Int); omega⟩)
        have kG94 : pj_kpt kc_200 G0 G94 := by rw [hG94]; exact pj_kpt_v kG60 rfl
        rw [← hG94]
        refine pj_X_of (fun r h => pj_R_to (G94, 61, [(4, .int (Int32.ofInt 0)), (3, .int y92), (2, .int (Int32.ofInt 1)), (1, .int y26), (0, .ref 171)], [], 0, 0) 61 3 (fun _ => rfl) h) ?_
        have q95 : (pj_fi G94 171 27).toInt = y63.toInt := by rw [show pj_fi G94 171 27 = y63 from by rw [hG94, pj_fi_wv_ne _ _ _ _ _ _ (by decide)]; exact hy63.symm]
        have q96 : (pj_fi G94 171 17).toInt = y64.toInt := by rw [show pj_fi G94 171 17 = y64 from by rw [hG94, pj_fi_wv_ne _ _ _ _ _ _ (by decide)]; exact hy64.symm]
        have q97 : (pj_fi G94 171 18).toInt = y65.toInt := by rw [show pj_fi G94 171 18 = y65 from by rw [hG94, pj_fi_wv_ne _ _ _ _ _ _ (by decide)]; exact hy65.symm]
        have q98 : (pj_fi G94 171 26).toInt = y63.toInt := by rw [show pj_fi G94 171 26 = y63 from by rw [hG94]; exact pj_fi_wi iG60.1 (ci := 12) rfl _]
        have hv1 : pj_vr G60 (pj_fi G60 171 27).toInt := pj_vr_q (ey59.2.2 (by omega)) (by omega)
        exact pj_X_sub [(0, .ref 171), (1, .int y26), (2, .int (Int32.ofInt 1)), (3, .int y92), (4, .int (Int32.ofInt 0))] (show List.Nodup [0, 1, 2, 3, 4] by decide) ⟨rfl, rfl, rfl, rfl, rfl, trivial⟩ ((lp_ct_200 G0 hI   p0_ 81) G94 iG94 kG94 y26 (Int32.ofInt 1) y92 (Int32.ofInt 0) ⟨by omega, by omega⟩ ⟨by omega, by omega⟩ ⟨by omega, by omega⟩ ⟨by omega, by omega⟩ (fun j hj => absurd hj (by omega)) (by rw [show pj_fi G94 171 27 = pj_fi G60 171 27 from by rw [hG94, pj_fi_wv_ne _ _ _ _ _ _ (by decide)]]; exact pj_vr_k (fun j => by rw [hG94, pj_ai_wv]) hv1) (by omega) (by omega))
      | false =>
        have ub93 := pj_u0_geF b93
        refine pj_X_of (fun r h => pj_R_ifF rfl b93 h) ?_
        refine pj_X_of (fun r h => pj_R_to (G60, 49, [(3, .int y92), (2, .int (Int32.ofInt 1)), (1, .int y26), (0, .ref 171)], [.int y92], 0, 0) 49 2 (fun _ => rfl) h) ?_
        have q99 : (pj_fi G60 171 27).toInt = y63.toInt := by rw [show pj_fi G60 171 27 = y63 from hy63.symm]
        have q100 : (pj_fi G60 171 17).toInt = y64.toInt := by rw [show pj_fi G60 171 17 = y64 from hy64.symm]
        have q101 : (pj_fi G60 171 18).toInt = y65.toInt := by rw [show pj_fi G60 171 18 = y65 from hy65.symm]
        have q102 : (pj_fi G60 171 26).toInt = y66.toInt := by rw [show pj_fi G60 171 26 = y66 from hy66.symm]
        have t103 : pj_kpt ([(171, 0), (171, 16), (171, 17), (171, 18), (171, 19), (171, 27)], [171, 183], [183]) G0 G0 := pj_kpt_r _ _
        have t104 : pj_kpt ([(171, 0), (171, 16), (171, 17), (171, 18), (171, 19), (171, 27)], [171, 183], [183]) G0 G21 := by rw [hG21]; exact pj_kpt_v t103 rfl
        have t105 : pj_kpt ([(171, 0), (171, 16), (171, 17), (171, 18), (171, 19), (171, 27)], [171, 183], [183]) G0 G27 := pj_kpt_t t104 (pj_kpt_s jG27 rfl)
        have t106 : pj_kpt ([(171, 0), (171, 16), (171, 17), (171, 18), (171, 19), (171, 27)], [171, 183], [183]) G0 G34 := by rw [hG34]; exact pj_kpt_v t105 rfl
        have t107 : pj_kpt ([(171, 0), (171, 16), (171, 17), (171, 18), (171, 19), (171, 27)], [171, 183], [183]) G0 G60 := pj_kpt_t t106 (pj_kpt_s jG60 rfl)
        exact pj_X_rt rfl rfl ⟨_, rfl, iG60, kG60, pj_i32 _, pj_RI_k p0_ t107 rfl⟩
