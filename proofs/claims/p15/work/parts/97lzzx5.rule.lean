theorem ct_199rx (G0 : pj_G) (hI : pj_Inv G0) (rk : Int32) (rrk : (0 : Int) ≤ rk.toInt ∧ rk.toInt ≤ 0) (p0_ : (pj_fi G0 171 27).toInt ≤ (pj_fi G0 171 17).toInt) (p1_ : (pj_fi G0 171 17).toInt ≤ (pj_fi G0 171 18).toInt) : pj_Y 500 199 [.ref 171, .int rk] G0 (fun v' G' => ∃ y : Int32, v' = some (.int y) ∧ pj_Inv G' ∧ pj_kpt pj_MY G0 G' ∧ ((0 : Int) ≤ y.toInt ∧ y.toInt ≤ 1) ∧ (∀ H, G0 = H → (((pj_fi H 171 17).toInt ≤ (pj_fi G' 171 17).toInt ∧ (pj_fi G' 171 17).toInt ≤ (pj_fi G' 171 18).toInt ∧ (pj_fi G' 171 27).toInt + (pj_fi H 171 17).toInt ≤ (pj_fi H 171 27).toInt + (pj_fi G' 171 17).toInt ∧ (1 ≤ y.toInt → (pj_fi G' 171 19).toInt = (pj_fi H 171 19).toInt)) ∧ pj_qp H G' ∧ (1 ≤ y.toInt → pj_qm H G' 1))) ∧ ((y, G') = RRx 480 1 rk G0)) := (pj_ihx_all 480).2 G0 rk hI (by omega) p0_ p1_ (by have h1 := hI.2.1 171 17 (0, 80) rfl; have h2 := hI.2.1 171 18 (0, 80) rfl; have h3 : 0 ≤ (pj_fi G0 171 17).toInt := h1.1; have h4 : (pj_fi G0 171 18).toInt ≤ 80 := h2.2; omega)
def kc_200tx : pj_KT := ([(171, 0), (171, 16), (171, 17), (171, 18), (171, 19), (171, 26), (171, 27)], [171, 182, 183], [182, 183])
noncomputable def L_201tx (G0 : pj_G) (fu : Nat) : Int32 → Int32 → Int32 → Int32 → pj_G → Int32 × pj_G := Nat.rec (motive := fun _ => Int32 → Int32 → Int32 → Int32 → pj_G → Int32 × pj_G) (fun _ _ _ _ G => (0, G)) (fun _ ih v1 v2 v3 v4 G => pj_nm (pj_fi G 171 27) (fun y1 => cond (pj_c1 .ge v4 y1) ((Int32.ofInt 0, G)) (pj_nm (pj_ai G 183 v4.toInt.toNat) (fun z12 => pj_nm (pj_wa G 182 v4.toInt.toNat z12) (fun G13 => pj_nm (v4 + Int32.ofInt 1) (fun z14 => ih v1 v2 v3 z14 G13)))))) fu
theorem L_201tx_s0 (G0 : pj_G) (fu : Nat) (v1 : Int32) (v2 : Int32) (v3 : Int32) (v4 : Int32) (G : pj_G) : L_201tx G0 (fu + 1) v1 v2 v3 v4 G = pj_nm (pj_fi G 171 27) (fun y1 => cond (pj_c1 .ge v4 y1) ((Int32.ofInt 0, G)) (pj_nm (pj_ai G 183 v4.toInt.toNat) (fun z12 => pj_nm (pj_wa G 182 v4.toInt.toNat z12) (fun G13 => pj_nm (v4 + Int32.ofInt 1) (fun z14 => L_201tx G0 fu v1 v2 v3 z14 G13))))) := rfl
noncomputable def F_201tx (G0 : pj_G) : Int32 × pj_G := pj_nm (pj_wv G0 171 0 (.int (Int32.ofInt 0))) (fun G25 => pj_bd (F_182etx G25 ((Int8.ofInt 40).toInt32)) (fun y31 G32 => pj_nm (pj_wv G32 171 27 (.int (Int32.ofInt 0))) (fun G40 => cond (pj_c1 .eq y31 0) (pj_nm (F_189x G40 y31 ((Int8.ofInt 40).toInt32) (Int32.ofInt 1)) (fun y47 => cond (pj_c1 .ge y47 0) (pj_nm (pj_wv G40 171 26 (.int (Int32.ofInt 0))) (fun G49 => L_201tx G0 81 y31 (Int32.ofInt 1) y47 (Int32.ofInt 0) G49)) ((y47, G40)))) (pj_bd (RRx 480 1 (Int32.ofInt 0) G40) (fun y69 G70 => cond (pj_c1 .eq y69 0) (pj_nm (F_189x G70 y31 ((Int8.ofInt 40).toInt32) (Int32.ofInt 0)) (fun y85 => cond (pj_c1 .ge y85 0) (pj_nm (pj_fi G70 171 27) (fun y74 => pj_nm (pj_wv G70 171 26 (.int y74)) (fun G87 => L_201tx G0 81 y31 (Int32.ofInt 0) y85 (Int32.ofInt 0) G87))) ((y85, G70)))) (pj_nm (F_189x G70 y31 ((Int8.ofInt 40).toInt32) (Int32.ofInt 1)) (fun y108 => cond (pj_c1 .ge y108 0) (pj_nm (pj_fi G70 171 27) (fun y74 => pj_nm (pj_wv G70 171 26 (.int y74)) (fun G110 => L_201tx G0 81 y31 (Int32.ofInt 1) y108 (Int32.ofInt 0) G110))) ((y108, G70)))))))))
theorem F_201tx_e (G0 : pj_G) : F_201tx G0 = pj_nm (pj_wv G0 171 0 (.int (Int32.ofInt 0))) (fun G25 => pj_bd (F_182etx G25 ((Int8.ofInt 40).toInt32)) (fun y31 G32 => pj_nm (pj_wv G32 171 27 (.int (Int32.ofInt 0))) (fun G40 => cond (pj_c1 .eq y31 0) (pj_nm (F_189x G40 y31 ((Int8.ofInt 40).toInt32) (Int32.ofInt 1)) (fun y47 => cond (pj_c1 .ge y47 0) (pj_nm (pj_wv G40 171 26 (.int (Int32.ofInt 0))) (fun G49 => L_201tx G0 81 y31 (Int32.ofInt 1) y47 (Int32.ofInt 0) G49)) ((y47, G40)))) (pj_bd (RRx 480 1 (Int32.ofInt 0) G40) (fun y69 G70 => cond (pj_c1 .eq y69 0) (pj_nm (F_189x G70 y31 ((Int8.ofInt 40).toInt32) (Int32.ofInt 0)) (fun y85 => cond (pj_c1 .ge y85 0) (pj_nm (pj_fi G70 171 27) (fun y74 => pj_nm (pj_wv G70 171 26 (.int y74)) (fun G87 => L_201tx G0 81 y31 (Int32.ofInt 0) y85 (Int32.ofInt 0) G87))) ((y85, G70)))) (pj_nm (F_189x G70 y31 ((Int8.ofInt 40).toInt32) (Int32.ofInt 1)) (fun y108 => cond (pj_c1 .ge y108 0) (pj_nm (pj_fi G70 171 27) (fun y74 => pj_nm (pj_wv G70 171 26 (.int y74)) (fun G110 => L_201tx G0 81 y31 (Int32.ofInt 1) y108 (Int32.ofInt 0) G110))) ((y108, G70))))))))) := rfl
theorem lp_ct_200tx (G0 : pj_G) (hI0 : pj_Inv G0) (p0_ : pj_RI G0) : ∀ mn : Nat, (∀ (G : pj_G) (hI : pj_Inv G) (hK : pj_kpt kc_200tx G0 G) (v1 : Int32) (v2 : Int32) (v3 : Int32) (v4 : Int32), ((0 : Int) ≤ v1.toInt ∧ v1.toInt ≤ 80) → ((0 : Int) ≤ v2.toInt ∧ v2.toInt ≤ 1) → ((-81 : Int) ≤ v3.toInt ∧ v3.toInt ≤ 0) → ((0 : Int) ≤ v4.toInt ∧ v4.toInt ≤ 80) → (pj_cq G v4.toInt) → (pj_vr G (pj_fi G 171 27).toInt) → ((pj_fi G 171 26).toInt = (pj_fi G 171 27).toInt ∧ v4.toInt ≤ (pj_fi G 171 27).toInt) → ((pj_fi G 171 16).toInt = 0) → 80 - v4.toInt < (mn : Int) → pj_X 501 pj_m200 G 61 [(0, .ref 171), (1, .int v1), (2, .int v2), (3, .int v3), (4, .int v4)] [] (fun v' G' => ∃ y : Int32, v' = some (.int y) ∧ pj_Inv G' ∧ pj_kpt kc_200tx G0 G' ∧ ((-2147483648 : Int) ≤ y.toInt ∧ y.toInt ≤ 2147483647) ∧ (pj_RI G' ∧ (pj_fi G' 171 16).toInt = 0) ∧ ((y, G') = L_201tx G0 mn v1 v2 v3 v4 G))) := by
  have c0_ : ((Int8.ofInt 40).toInt32).toInt = 40 := by decide
  have c1_ : (Int32.ofInt 0).toInt = 0 := by decide
  have c2_ : (Int32.ofInt 1).toInt = 1 := by decide
  intro mn
  induction mn with
  | zero =>
    intro G hI hK v1 v2 v3 v4 rv1 rv2 rv3 rv4 x0_ x1_ x2_ x3_ hm
    exfalso
    omega
  | succ mn ih =>
    intro G hI hK v1 v2 v3 v4 rv1 rv2 rv3 rv4 x0_ x1_ x2_ x3_ hm
    rw [L_201tx_s0]
    obtain ⟨y1, hy1⟩ : ∃ z : Int32, z = pj_fi G 171 27 := ⟨_, rfl⟩
    have ey1 : (pj_fi G 171 27).toInt = y1.toInt := by rw [hy1]
    have ry1 : (0 : Int) ≤ y1.toInt ∧ y1.toInt ≤ 80 := by rw [hy1]; exact hI.2.1 171 27 (0, 80) rfl
    obtain ⟨y2, hy2⟩ : ∃ z : Int32, z = pj_fi G 171 17 := ⟨_, rfl⟩
    have ey2 : (pj_fi G 171 17).toInt = y2.toInt := by rw [hy2]
    have ry2 : (0 : Int) ≤ y2.toInt ∧ y2.toInt ≤ 80 := by rw [hy2]; exact hI.2.1 171 17 (0, 80) rfl
    obtain ⟨y3, hy3⟩ : ∃ z : Int32, z = pj_fi G 171 18 := ⟨_, rfl⟩
    have ey3 : (pj_fi G 171 18).toInt = y3.toInt := by rw [hy3]
    have ry3 : (0 : Int) ≤ y3.toInt ∧ y3.toInt ≤ 80 := by rw [hy3]; exact hI.2.1 171 18 (0, 80) rfl
    obtain ⟨y4, hy4⟩ : ∃ z : Int32, z = pj_fi G 171 26 := ⟨_, rfl⟩
    have ey4 : (pj_fi G 171 26).toInt = y4.toInt := by rw [hy4]
    have ry4 : (0 : Int) ≤ y4.toInt ∧ y4.toInt ≤ 80 := by rw [hy4]; exact hI.2.1 171 26 (0, 80) rfl
    obtain ⟨y5, hy5⟩ : ∃ z : Int32, z = pj_fi G 171 16 := ⟨_, rfl⟩
    have ey5 : (pj_fi G 171 16).toInt = y5.toInt := by rw [hy5]
    have ry5 : (0 : Int) ≤ y5.toInt ∧ y5.toInt ≤ 80 := by rw [hy5]; exact hI.2.1 171 16 (0, 80) rfl
    refine pj_X_of (fun r h => pj_R_to (G, 64, [(0, .ref 171), (1, .int v1), (2, .int v2), (3, .int v3), (4, .int v4)], [.ref 171, .int v4], 0, 0) 64 3 (fun _ => rfl) h) ?_
    refine pj_X_of (fun r h => pj_T_gi hI rfl rfl h) ?_
    show pj_X _ _ G 67 [(0, .ref 171), (1, .int v1), (2, .int v2), (3, .int v3), (4, .int v4)] [.int (pj_fi G 171 27), .int v4] _
    rw [← hy1, pj_nm_e]
    cases b6 : pj_c1 .ge v4 y1 with
    | true =>
      rw [pj_cT]
      have ub6 := pj_u_geT b6
      refine pj_X_of (fun r h => pj_R_icT 90 rfl rfl b6 h) ?_
      refine pj_X_of (fun r h => pj_R_to (G, 91, [(0, .ref 171), (1, .int v1), (2, .int v2), (3, .int v3), (4, .int v4)], [.int (Int32.ofInt 0)], 0, 0) 91 2 (fun _ => rfl) h) ?_
      have q7 : (pj_fi G 171 27).toInt = y1.toInt := by rw [show pj_fi G 171 27 = y1 from hy1.symm]
      have q8 : (pj_fi G 171 17).toInt = y2.toInt := by rw [show pj_fi G 171 17 = y2 from hy2.symm]
      have q9 : (pj_fi G 171 18).toInt = y3.toInt := by rw [show pj_fi G 171 18 = y3 from hy3.symm]
      have q10 : (pj_fi G 171 26).toInt = y4.toInt := by rw [show pj_fi G 171 26 = y4 from hy4.symm]
      have q11 : (pj_fi G 171 16).toInt = y5.toInt := by rw [show pj_fi G 171 16 = y5 from hy5.symm]
      exact pj_X_rt rfl rfl ⟨_, rfl, hI, hK, pj_i32 _, ⟨pj_RI_r p0_ (hK.1 (171, 3) (by decide)) (hK.1 (171, 4) (by decide)) (fun j => hK.2.2 173 (by decide) j) (fun j => hK.2.2 174 (by decide) j) (n := (pj_fi G 171 27).toInt) (fun j hj => x0_ j (by omega)) x1_ (by omega), by omega⟩, rfl⟩
    | false =>
      rw [pj_cF]
      have ub6 := pj_u_geF b6
      refine pj_X_of (fun r h => pj_R_icF rfl b6 h) ?_
      refine pj_X_of (fun r h => pj_R_to (G, 71, [(0, .ref 171), (1, .int v1), (2, .int v2), (3, .int v3), (4, .int v4)], [.ref 171], 0, 0) 71 2 (fun _ => rfl) h) ?_
      refine pj_X_of (fun r h => pj_T_gr hI rfl rfl rfl h) ?_
      refine pj_X_of (fun r h => pj_R_to (G, 77, [(0, .ref 171), (1, .int v1), (2, .int v2), (3, .int v3), (4, .int v4)], [.ref 171, .int v4, .ref 182], 0, 0) 77 3 (fun _ => rfl) h) ?_
      refine pj_X_of (fun r h => pj_T_gr hI rfl rfl rfl h) ?_
      refine pj_X_of (fun r h => pj_R_to (G, 82, [(0, .ref 171), (1, .int v1), (2, .int v2), (3, .int v3), (4, .int v4)], [.int v4, .ref 183, .int v4, .ref 182], 0, 0) 82 2 (fun _ => rfl) h) ?_
      refine pj_X_of (fun r h => pj_T_il hI rfl rfl (by omega) (by omega) h) ?_
      show pj_X _ _ G 83 [(0, .ref 171), (1, .int v1), (2, .int v2), (3, .int v3), (4, .int v4)] [.int (pj_ai G 183 v4.toInt.toNat), .int v4, .ref 182] _
      obtain ⟨z12, hz12⟩ : ∃ z : Int32, z = pj_ai G 183 v4.toInt.toNat := ⟨_, rfl⟩
      refine pj_X_eqi hz12.symm ?_
      rw [← hz12, pj_nm_e]
      have ez12 : (pj_ai G 183 v4.toInt.toNat).toInt = z12.toInt := by rw [hz12]
      have fz12_0 : (-1 : Int) ≤ z12.toInt ∧ z12.toInt ≤ 3000 ∧ (z12.toInt ≤ 1006 ∨ 2000 ≤ z12.toInt) := by rw [hz12]; exact hI.2.2.1 183 (80, -1, 3000, 1006, 2000) rfl _ (by show _ < 80; omega)
      refine pj_X_of (fun r h => pj_T_is hI rfl rfl (by omega) (by omega) h) ?_
      show pj_X _ _ (pj_wa G 182 v4.toInt.toNat z12) 84 [(0, .ref 171), (1, .int v1), (2, .int v2), (3, .int v3), (4, .int v4)] [] _
      obtain ⟨G13, hG13⟩ : ∃ H, H = pj_wa G 182 v4.toInt.toNat z12 := ⟨_, rfl⟩
      have iG13 : pj_Inv G13 := by rw [hG13]; exact pj_Inv_wa hI rfl (fun q hq => by cases hq; exact ⟨by show (-1 : Int) ≤ _; omega, by show _ ≤ (3000 : Int); omega, by show _ ≤ (1006 : Int) ∨ (2000 : Int) ≤ _; omega⟩) (fun n hn => by cases hn)
      have kG13 : pj_kpt kc_200tx G0 G13 := by rw [hG13]; exact pj_kpt_a hK rfl
      rw [← hG13]
      rw [pj_nm_e]
      refine pj_X_of (fun r h => pj_R_to (G13, 87, [(4, .int (v4 + Int32.ofInt 1)), (0, .ref 171), (1, .int v1), (2, .int v2), (3, .int v3)], [], 0, 0) 87 2 (fun _ => rfl) h) ?_
      obtain ⟨z14, hz14⟩ : ∃ z : Int32, z = v4 + Int32.ofInt 1 := ⟨_, rfl⟩
      rw [← hz14]
      rw [pj_nm_e]
      have fz14_0 : z14.toInt = v4.toInt + (Int32.ofInt 1).toInt := by rw [hz14]; exact pj_addI (by have := pj_i32 v4; have := pj_i32 (Int32.ofInt 1); omega) (by have := pj_i32 v4; have := pj_i32 (Int32.ofInt 1); omega)
      refine pj_X_of (fun r h => pj_R_to (G13, 61, [(4, .int z14), (0, .ref 171), (1, .int v1), (2, .int v2), (3, .int v3)], [], 0, 0) 61 2 (fun _ => rfl) h) ?_
      have q15 : (pj_fi G13 171 27).toInt = y1.toInt := by rw [show pj_fi G13 171 27 = y1 from by rw [hG13, pj_fi_wa]; exact hy1.symm]
      have q16 : (pj_fi G13 171 17).toInt = y2.toInt := by rw [show pj_fi G13 171 17 = y2 from by rw [hG13, pj_fi_wa]; exact hy2.symm]
      have q17 : (pj_fi G13 171 18).toInt = y3.toInt := by rw [show pj_fi G13 171 18 = y3 from by rw [hG13, pj_fi_wa]; exact hy3.symm]
      have q18 : (pj_fi G13 171 26).toInt = y4.toInt := by rw [show pj_fi G13 171 26 = y4 from by rw [hG13, pj_fi_wa]; exact hy4.symm]
      have q19 : (pj_fi G13 171 16).toInt = y5.toInt := by rw [show pj_fi G13 171 16 = y5 from by rw [hG13, pj_fi_wa]; exact hy5.symm]
      have h3 : pj_ai G13 182 v4.toInt.toNat = pj_ai G 183 v4.toInt.toNat := by rw [hG13, pj_ai_wa_eq hI.1 rfl, hz12]
      exact pj_X_sub [(0, .ref 171), (1, .int v1), (2, .int v2), (3, .int v3), (4, .int z14)] (show List.Nodup [0, 1, 2, 3, 4] by decide) ⟨rfl, rfl, rfl, rfl, rfl, trivial⟩ (ih G13 iG13 kG13 v1 v2 v3 z14 ⟨by omega, by omega⟩ ⟨by omega, by omega⟩ ⟨by omega, by omega⟩ ⟨by omega, by omega⟩ (by rw [show z14.toInt = v4.toInt + 1 by omega]; exact pj_cq_s x0_ v4.toInt.toNat (by omega) (fun j => by rw [hG13, pj_ai_wa_ne _ _ _ _ _ _ (by decide)]) (fun j hj => by rw [hG13, pj_ai_wa_nj _ _ _ _ _ (by omega)]) h3) (by rw [show pj_fi G13 171 27 = pj_fi G 171 27 from by rw [hG13, pj_fi_wa]]; exact pj_vr_k (fun j => by rw [hG13, pj_ai_wa_ne _ _ _ _ _ _ (by decide)]) x1_) (by omega) (by omega) (by omega))
theorem ct_200tx (G0 : pj_G) (hI : pj_Inv G0) (p0_ : pj_RI G0) : pj_Y 502 200 [.ref 171] G0 (fun v' G' => ∃ y : Int32, v' = some (.int y) ∧ pj_Inv G' ∧ pj_kpt kc_200tx G0 G' ∧ ((-2147483648 : Int) ≤ y.toInt ∧ y.toInt ≤ 2147483647) ∧ (pj_RI G' ∧ (pj_fi G' 171 16).toInt = 0) ∧ ((y, G') = F_201tx G0)) := by
  have c0_ : ((Int8.ofInt 40).toInt32).toInt = 40 := by decide
  have c1_ : (Int32.ofInt 0).toInt = 0 := by decide
  have c2_ : (Int32.ofInt 1).toInt = 1 := by decide
  refine pj_Y_X (M := pj_m200) rfl rfl (Nat.le_of_ble_eq_true rfl) ?_
  have hK : pj_kpt kc_200tx G0 G0 := pj_kpt_r _ _
  show pj_X _ _ G0 0 [(0, .ref 171)] [] _
  rw [F_201tx_e]
  obtain ⟨y20, hy20⟩ : ∃ z : Int32, z = pj_fi G0 171 27 := ⟨_, rfl⟩
  have ey20 : (pj_fi G0 171 27).toInt = y20.toInt := by rw [hy20]
  have ry20 : (0 : Int) ≤ y20.toInt ∧ y20.toInt ≤ 80 := by rw [hy20]; exact hI.2.1 171 27 (0, 80) rfl
  obtain ⟨y21, hy21⟩ : ∃ z : Int32, z = pj_fi G0 171 17 := ⟨_, rfl⟩
  have ey21 : (pj_fi G0 171 17).toInt = y21.toInt := by rw [hy21]
  have ry21 : (0 : Int) ≤ y21.toInt ∧ y21.toInt ≤ 80 := by rw [hy21]; exact hI.2.1 171 17 (0, 80) rfl
  obtain ⟨y22, hy22⟩ : ∃ z : Int32, z = pj_fi G0 171 18 := ⟨_, rfl⟩
  have ey22 : (pj_fi G0 171 18).toInt = y22.toInt := by rw [hy22]
  have ry22 : (0 : Int) ≤ y22.toInt ∧ y22.toInt ≤ 80 := by rw [hy22]; exact hI.2.1 171 18 (0, 80) rfl
  obtain ⟨y23, hy23⟩ : ∃ z : Int32, z = pj_fi G0 171 26 := ⟨_, rfl⟩
  have ey23 : (pj_fi G0 171 26).toInt = y23.toInt := by rw [hy23]
  have ry23 : (0 : Int) ≤ y23.toInt ∧ y23.toInt ≤ 80 := by rw [hy23]; exact hI.2.1 171 26 (0, 80) rfl
  obtain ⟨y24, hy24⟩ : ∃ z : Int32, z = pj_fi G0 171 16 := ⟨_, rfl⟩
  have ey24 : (pj_fi G0 171 16).toInt = y24.toInt := by rw [hy24]
  have ry24 : (0 : Int) ≤ y24.toInt ∧ y24.toInt ≤ 80 := by rw [hy24]; exact hI.2.1 171 16 (0, 80) rfl
  refine pj_X_of (fun r h => pj_R_to (G0, 2, [(0, .ref 171)], [.int (Int32.ofInt 0), .ref 171], 0, 0) 2 3 (fun _ => rfl) h) ?_
  refine pj_X_of (fun r h => pj_T_pf hI rfl rfl rfl h) ?_
  show pj_X _ _ (pj_wv G0 171 0 (.int (Int32.ofInt 0))) 5 [(0, .ref 171)] [] _
  obtain ⟨G25, hG25⟩ : ∃ H, H = pj_wv G0 171 0 (.int (Int32.ofInt 0)) := ⟨_, rfl⟩
  have iG25 : pj_Inv G25 := by rw [hG25]; exact pj_Inv_wi hI (ci := 12) rfl (fun q hq => by cases hq)
  have kG25 : pj_kpt kc_200tx G0 G25 := by rw [hG25]; exact pj_kpt_v hK rfl
  rw [← hG25]
  rw [pj_nm_e]
  refine pj_X_of (fun r h => pj_R_to (G25, 8, [(0, .ref 171)], [.int ((Int8.ofInt 40).toInt32), .ref 171], 0, 0) 8 3 (fun _ => rfl) h) ?_
  have q26 : (pj_fi G25 171 27).toInt = y20.toInt := by rw [show pj_fi G25 171 27 = y20 from by rw [hG25, pj_fi_wv_ne _ _ _ _ _ _ (by decide)]; exact hy20.symm]
  have q27 : (pj_fi G25 171 17).toInt = y21.toInt := by rw [show pj_fi G25 171 17 = y21 from by rw [hG25, pj_fi_wv_ne _ _ _ _ _ _ (by decide)]; exact hy21.symm]
  have q28 : (pj_fi G25 171 18).toInt = y22.toInt := by rw [show pj_fi G25 171 18 = y22 from by rw [hG25, pj_fi_wv_ne _ _ _ _ _ _ (by decide)]; exact hy22.symm]
  have q29 : (pj_fi G25 171 26).toInt = y23.toInt := by rw [show pj_fi G25 171 26 = y23 from by rw [hG25, pj_fi_wv_ne _ _ _ _ _ _ (by decide)]; exact hy23.symm]
  have q30 : (pj_fi G25 171 16).toInt = y24.toInt := by rw [show pj_fi G25 171 16 = y24 from by rw [hG25, pj_fi_wv_ne _ _ _ _ _ _ (by decide)]; exact hy24.symm]
  refine pj_X_ca (vs := [.ref 171, .int ((Int8.ofInt 40).toInt32)]) rfl (fun _ => rfl) ⟨Nat.le_of_ble_eq_true rfl, Nat.le_of_ble_eq_true rfl, pj_T_rcv iG25 rfl⟩ ⟨rfl, rfl⟩ (pj_Y_up (by decide) (ct_181etx G25 iG25 ((Int8.ofInt 40).toInt32) ⟨by omega, by omega⟩)) ?_
  rintro _ G32 ⟨y31, rfl, iG32, jG32, ry31, ey31, fy31⟩
  replace ey31 := ey31 _ rfl
  rw [← fy31, pj_bd_e]
  have kG32 : pj_kpt kc_200tx G0 G32 := pj_kpt_t kG25 (pj_kpt_s jG32 rfl)
  have q33 : (pj_fi G32 171 27).toInt = (pj_fi G25 171 27).toInt := by rw [jG32.1 (171, 27) (by decide)]
  have q34 : (pj_fi G32 171 26).toInt = (pj_fi G25 171 26).toInt := by rw [jG32.1 (171, 26) (by decide)]
  obtain ⟨y35, hy35⟩ : ∃ z : Int32, z = pj_fi G32 171 27 := ⟨_, rfl⟩
  have ey35 : (pj_fi G32 171 27).toInt = y35.toInt := by rw [hy35]
  have ry35 : (0 : Int) ≤ y35.toInt ∧ y35.toInt ≤ 80 := by rw [hy35]; exact iG32.2.1 171 27 (0, 80) rfl
  obtain ⟨y36, hy36⟩ : ∃ z : Int32, z = pj_fi G32 171 17 := ⟨_, rfl⟩
  have ey36 : (pj_fi G32 171 17).toInt = y36.toInt := by rw [hy36]
  have ry36 : (0 : Int) ≤ y36.toInt ∧ y36.toInt ≤ 80 := by rw [hy36]; exact iG32.2.1 171 17 (0, 80) rfl
  obtain ⟨y37, hy37⟩ : ∃ z : Int32, z = pj_fi G32 171 18 := ⟨_, rfl⟩
  have ey37 : (pj_fi G32 171 18).toInt = y37.toInt := by rw [hy37]
  have ry37 : (0 : Int) ≤ y37.toInt ∧ y37.toInt ≤ 80 := by rw [hy37]; exact iG32.2.1 171 18 (0, 80) rfl
  obtain ⟨y38, hy38⟩ : ∃ z : Int32, z = pj_fi G32 171 26 := ⟨_, rfl⟩
  have ey38 : (pj_fi G32 171 26).toInt = y38.toInt := by rw [hy38]
  have ry38 : (0 : Int) ≤ y38.toInt ∧ y38.toInt ≤ 80 := by rw [hy38]; exact iG32.2.1 171 26 (0, 80) rfl
  obtain ⟨y39, hy39⟩ : ∃ z : Int32, z = pj_fi G32 171 16 := ⟨_, rfl⟩
  have ey39 : (pj_fi G32 171 16).toInt = y39.toInt := by rw [hy39]
  have ry39 : (0 : Int) ≤ y39.toInt ∧ y39.toInt ≤ 80 := by rw [hy39]; exact iG32.2.1 171 16 (0, 80) rfl
  show pj_X _ _ G32 11 [(0, .ref 171)] [.int y31] _
  refine pj_X_of (fun r h => pj_R_to (G32, 14, [(1, .int y31), (0, .ref 171)], [.int (Int32.ofInt 0), .ref 171], 0, 0) 14 4 (fun _ => rfl) h) ?_
  refine pj_X_of (fun r h => pj_T_pf iG32 rfl rfl rfl h) ?_
  show pj_X _ _ (pj_wv G32 171 27 (.int (Int32.ofInt 0))) 17 [(1, .int y31), (0, .ref 171)] [] _
  obtain ⟨G40, hG40⟩ : ∃ H, H = pj_wv G32 171 27 (.int (Int32.ofInt 0)) := ⟨_, rfl⟩
  have iG40 : pj_Inv G40 := by rw [hG40]; exact pj_Inv_wi iG32 (ci := 12) rfl (fun q hq => by cases hq; exact ⟨by show (0 : Int) ≤ _; omega, by show _ ≤ (80 : Int); omega⟩)
  have kG40 : pj_kpt kc_200tx G0 G40 := by rw [hG40]; exact pj_kpt_v kG32 rfl
  rw [← hG40]
  rw [pj_nm_e]
  refine pj_X_of (fun r h => pj_R_to (G40, 18, [(1, .int y31), (0, .ref 171)], [.int y31], 0, 0) 18 2 (fun _ => rfl) h) ?_
  cases b41 : pj_c1 .eq y31 0 with
  | true =>
    rw [pj_cT]
    have ub41 := pj_u0_eqT b41
    refine pj_X_of (fun r h => pj_R_ifT 29 rfl rfl b41 h) ?_
    refine pj_X_of (fun r h => pj_R_to (G40, 40, [(2, .int (Int32.ofInt 1)), (1, .int y31), (0, .ref 171)], [.int (Int32.ofInt 1), .int ((Int8.ofInt 40).toInt32), .int y31, .ref 171], 0, 0) 40 8 (fun _ => rfl) h) ?_
    have q42 : (pj_fi G40 171 27).toInt = (Int32.ofInt 0).toInt := by rw [show pj_fi G40 171 27 = Int32.ofInt 0 from by rw [hG40]; exact pj_fi_wi iG32.1 (ci := 12) rfl _]
    have q43 : (pj_fi G40 171 17).toInt = y36.toInt := by rw [show pj_fi G40 171 17 = y36 from by rw [hG40, pj_fi_wv_ne _ _ _ _ _ _ (by decide)]; exact hy36.symm]
    have q44 : (pj_fi G40 171 18).toInt = y37.toInt := by rw [show pj_fi G40 171 18 = y37 from by rw [hG40, pj_fi_wv_ne _ _ _ _ _ _ (by decide)]; exact hy37.symm]
    have q45 : (pj_fi G40 171 26).toInt = y38.toInt := by rw [show pj_fi G40 171 26 = y38 from by rw [hG40, pj_fi_wv_ne _ _ _ _ _ _ (by decide)]; exact hy38.symm]
    have q46 : (pj_fi G40 171 16).toInt = y39.toInt := by rw [show pj_fi G40 171 16 = y39 from by rw [hG40, pj_fi_wv_ne _ _ _ _ _ _ (by decide)]; exact hy39.symm]
    refine pj_X_ca (vs := [.ref 171, .int y31, .int ((Int8.ofInt 40).toInt32), .int (Int32.ofInt 1)]) rfl (fun _ => rfl) ⟨Nat.le_of_ble_eq_true rfl, Nat.le_of_ble_eq_true rfl, pj_T_rcv iG40 rfl⟩ ⟨rfl, rfl⟩ (pj_Y_up (by decide) (ct_188x G40 iG40 y31 ((Int8.ofInt 40).toInt32) (Int32.ofInt 1) ⟨by omega, by omega⟩ ⟨by omega, by omega⟩ ⟨by omega, by omega⟩)) ?_
    rintro _ _ ⟨y47, rfl, rfl, ry47, ey47, fy47⟩
    replace ey47 := ey47 _ rfl
    rw [← fy47, pj_nm_e]
    show pj_X _ _ G40 43 [(2, .int (Int32.ofInt 1)), (1, .int y31), (0, .ref 171)] [.int y47] _
    refine pj_X_of (fun r h => pj_R_to (G40, 45, [(3, .int y47), (2, .int (Int32.ofInt 1)), (1, .int y31), (0, .ref 171)], [.int y47], 0, 0) 45 3 (fun _ => rfl) h) ?_
    cases b48 : pj_c1 .ge y47 0 with
    | true =>
      rw [pj_cT]
      have ub48 := pj_u0_geT b48
      refine pj_X_of (fun r h => pj_R_ifT 50 rfl rfl b48 h) ?_
      refine pj_X_of (fun r h => pj_R_to (G40, 52, [(3, .int y47), (2, .int (Int32.ofInt 1)), (1, .int y31), (0, .ref 171)], [.ref 171, .ref 171], 0, 0) 52 3 (fun _ => rfl) h) ?_
      refine pj_X_of (fun r h => pj_T_gi iG40 rfl rfl h) ?_
      show pj_X _ _ G40 55 [(3, .int y47), (2, .int (Int32.ofInt 1)), (1, .int y31), (0, .ref 171)] [.int (pj_fi G40 171 27), .ref 171] _
      refine pj_X_eqi (show pj_fi G40 171 27 = Int32.ofInt 0 from by rw [hG40]; exact pj_fi_wi iG32.1 (ci := 12) rfl _) ?_
      refine pj_X_of (fun r h => pj_T_pf iG40 rfl rfl rfl h) ?_
      show pj_X _ _ (pj_wv G40 171 26 (.int (Int32.ofInt 0))) 58 [(3, .int y47), (2, .int (Int32.ofInt 1)), (1, .int y31), (0, .ref 171)] [] _
      obtain ⟨G49, hG49⟩ : ∃ H, H = pj_wv G40 171 26 (.int (Int32.ofInt 0)) := ⟨_, rfl⟩
      have iG49 : pj_Inv G49 := by rw [hG49]; exact pj_Inv_wi iG40 (ci := 12) rfl (fun q hq => by cases hq; exact ⟨by show (0 : Int) ≤ _; omega, by show _ ≤ (80 : Int); omega⟩)
      have kG49 : pj_kpt kc_200tx G0 G49 := by rw [hG49]; exact pj_kpt_v kG40 rfl
      rw [← hG49]
      rw [pj_nm_e]
      refine pj_X_of (fun r h => pj_R_to (G49, 61, [(4, .int (Int32.ofInt 0)), (3, .int y47), (2, .int (Int32.ofInt 1)), (1, .int y31), (0, .ref 171)], [], 0, 0) 61 3 (fun _ => rfl) h) ?_
      have q50 : (pj_fi G49 171 27).toInt = (Int32.ofInt 0).toInt := by rw [show pj_fi G49 171 27 = Int32.ofInt 0 from by rw [hG49, pj_fi_wv_ne _ _ _ _ _ _ (by decide)]; exact (by rw [hG40]; exact pj_fi_wi iG32.1 (ci := 12) rfl _)]
      have q51 : (pj_fi G49 171 17).toInt = y36.toInt := by rw [show pj_fi G49 171 17 = y36 from by rw [hG49, pj_fi_wv_ne _ _ _ _ _ _ (by decide)]; exact (by rw [hG40, pj_fi_wv_ne _ _ _ _ _ _ (by decide)]; exact hy36.symm)]
      have q52 : (pj_fi G49 171 18).toInt = y37.toInt := by rw [show pj_fi G49 171 18 = y37 from by rw [hG49, pj_fi_wv_ne _ _ _ _ _ _ (by decide)]; exact (by rw [hG40, pj_fi_wv_ne _ _ _ _ _ _ (by decide)]; exact hy37.symm)]
      have q53 : (pj_fi G49 171 26).toInt = (Int32.ofInt 0).toInt := by rw [show pj_fi G49 171 26 = Int32.ofInt 0 from by rw [hG49]; exact pj_fi_wi iG40.1 (ci := 12) rfl _]
      have q54 : (pj_fi G49 171 16).toInt = y39.toInt := by rw [show pj_fi G49 171 16 = y39 from by rw [hG49, pj_fi_wv_ne _ _ _ _ _ _ (by decide)]; exact (by rw [hG40, pj_fi_wv_ne _ _ _ _ _ _ (by decide)]; exact hy39.symm)]
      exact pj_X_sub [(0, .ref 171), (1, .int y31), (2, .int (Int32.ofInt 1)), (3, .int y47), (4, .int (Int32.ofInt 0))] (show List.Nodup [0, 1, 2, 3, 4] by decide) ⟨rfl, rfl, rfl, rfl, rfl, trivial⟩ ((lp_ct_200tx G0 hI   p0_ 81) G49 iG49 kG49 y31 (Int32.ofInt 1) y47 (Int32.ofInt 0) ⟨by omega, by omega⟩ ⟨by omega, by omega⟩ ⟨by omega, by omega⟩ ⟨by omega, by omega⟩ (fun j hj => absurd hj (by omega)) (pj_vr_0 (by omega)) (by omega) (by omega) (by omega))
    | false =>
      rw [pj_cF]
      have ub48 := pj_u0_geF b48
      refine pj_X_of (fun r h => pj_R_ifF rfl b48 h) ?_
      refine pj_X_of (fun r h => pj_R_to (G40, 49, [(3, .int y47), (2, .int (Int32.ofInt 1)), (1, .int y31), (0, .ref 171)], [.int y47], 0, 0) 49 2 (fun _ => rfl) h) ?_
      have q55 : (pj_fi G40 171 27).toInt = (Int32.ofInt 0).toInt := by rw [show pj_fi G40 171 27 = Int32.ofInt 0 from by rw [hG40]; exact pj_fi_wi iG32.1 (ci := 12) rfl _]
      have q56 : (pj_fi G40 171 17).toInt = y36.toInt := by rw [show pj_fi G40 171 17 = y36 from by rw [hG40, pj_fi_wv_ne _ _ _ _ _ _ (by decide)]; exact hy36.symm]
      have q57 : (pj_fi G40 171 18).toInt = y37.toInt := by rw [show pj_fi G40 171 18 = y37 from by rw [hG40, pj_fi_wv_ne _ _ _ _ _ _ (by decide)]; exact hy37.symm]
      have q58 : (pj_fi G40 171 26).toInt = y38.toInt := by rw [show pj_fi G40 171 26 = y38 from by rw [hG40, pj_fi_wv_ne _ _ _ _ _ _ (by decide)]; exact hy38.symm]
      have q59 : (pj_fi G40 171 16).toInt = y39.toInt := by rw [show pj_fi G40 171 16 = y39 from by rw [hG40, pj_fi_wv_ne _ _ _ _ _ _ (by decide)]; exact hy39.symm]
      have t60 : pj_kpt ([(171, 0), (171, 16), (171, 17), (171, 18), (171, 19), (171, 27)], [171], []) G0 G0 := pj_kpt_r _ _
      have t61 : pj_kpt ([(171, 0), (171, 16), (171, 17), (171, 18), (171, 19), (171, 27)], [171], []) G0 G25 := by rw [hG25]; exact pj_kpt_v t60 rfl
      have t62 : pj_kpt ([(171, 0), (171, 16), (171, 17), (171, 18), (171, 19), (171, 27)], [171], []) G0 G32 := pj_kpt_t t61 (pj_kpt_s jG32 rfl)
      have t63 : pj_kpt ([(171, 0), (171, 16), (171, 17), (171, 18), (171, 19), (171, 27)], [171], []) G0 G40 := by rw [hG40]; exact pj_kpt_v t62 rfl
      exact pj_X_rt rfl rfl ⟨_, rfl, iG40, kG40, pj_i32 _, ⟨pj_RI_k p0_ t63 rfl, by omega⟩, rfl⟩
  | false =>
    rw [pj_cF]
    have ub41 := pj_u0_eqF b41
    refine pj_X_of (fun r h => pj_R_ifF rfl b41 h) ?_
    refine pj_X_of (fun r h => pj_R_to (G40, 23, [(1, .int y31), (0, .ref 171)], [.int (Int32.ofInt 0), .ref 171], 0, 0) 23 3 (fun _ => rfl) h) ?_
    have q64 : (pj_fi G40 171 27).toInt = (Int32.ofInt 0).toInt := by rw [show pj_fi G40 171 27 = Int32.ofInt 0 from by rw [hG40]; exact pj_fi_wi iG32.1 (ci := 12) rfl _]
    have q65 : (pj_fi G40 171 17).toInt = y36.toInt := by rw [show pj_fi G40 171 17 = y36 from by rw [hG40, pj_fi_wv_ne _ _ _ _ _ _ (by decide)]; exact hy36.symm]
    have q66 : (pj_fi G40 171 18).toInt = y37.toInt := by rw [show pj_fi G40 171 18 = y37 from by rw [hG40, pj_fi_wv_ne _ _ _ _ _ _ (by decide)]; exact hy37.symm]
    have q67 : (pj_fi G40 171 26).toInt = y38.toInt := by rw [show pj_fi G40 171 26 = y38 from by rw [hG40, pj_fi_wv_ne _ _ _ _ _ _ (by decide)]; exact hy38.symm]
    have q68 : (pj_fi G40 171 16).toInt = y39.toInt := by rw [show pj_fi G40 171 16 = y39 from by rw [hG40, pj_fi_wv_ne _ _ _ _ _ _ (by decide)]; exact hy39.symm]
    refine pj_X_ca (vs := [.ref 171, .int (Int32.ofInt 0)]) rfl (fun _ => rfl) ⟨Nat.le_of_ble_eq_true rfl, Nat.le_of_ble_eq_true rfl, pj_T_rcv iG40 rfl⟩ ⟨rfl, rfl⟩ (pj_Y_up (by decide) (ct_199rx G40 iG40 (Int32.ofInt 0) ⟨by omega, by omega⟩ (by omega) (by omega))) ?_
    rintro _ G70 ⟨y69, rfl, iG70, jG70, ry69, ey69, fy69⟩
    replace ey69 := ey69 _ rfl
    rw [← fy69, pj_bd_e]
    have kG70 : pj_kpt kc_200tx G0 G70 := pj_kpt_t kG40 (pj_kpt_s jG70 rfl)
    have q71 : (pj_fi G70 171 18).toInt = (pj_fi G40 171 18).toInt := by rw [jG70.1 (171, 18) (by decide)]
    have q72 : (pj_fi G70 171 26).toInt = (pj_fi G40 171 26).toInt := by rw [jG70.1 (171, 26) (by decide)]
    have q73 : (pj_fi G70 171 16).toInt = (pj_fi G40 171 16).toInt := by rw [jG70.1 (171, 16) (by decide)]
    obtain ⟨y74, hy74⟩ : ∃ z : Int32, z = pj_fi G70 171 27 := ⟨_, rfl⟩
    have ey74 : (pj_fi G70 171 27).toInt = y74.toInt := by rw [hy74]
    have ry74 : (0 : Int) ≤ y74.toInt ∧ y74.toInt ≤ 80 := by rw [hy74]; exact iG70.2.1 171 27 (0, 80) rfl
    obtain ⟨y75, hy75⟩ : ∃ z : Int32, z = pj_fi G70 171 17 := ⟨_, rfl⟩
    have ey75 : (pj_fi G70 171 17).toInt = y75.toInt := by rw [hy75]
    have ry75 : (0 : Int) ≤ y75.toInt ∧ y75.toInt ≤ 80 := by rw [hy75]; exact iG70.2.1 171 17 (0, 80) rfl
    obtain ⟨y76, hy76⟩ : ∃ z : Int32, z = pj_fi G70 171 18 := ⟨_, rfl⟩
    have ey76 : (pj_fi G70 171 18).toInt = y76.toInt := by rw [hy76]
    have ry76 : (0 : Int) ≤ y76.toInt ∧ y76.toInt ≤ 80 := by rw [hy76]; exact iG70.2.1 171 18 (0, 80) rfl
    obtain ⟨y77, hy77⟩ : ∃ z : Int32, z = pj_fi G70 171 26 := ⟨_, rfl⟩
    have ey77 : (pj_fi G70 171 26).toInt = y77.toInt := by rw [hy77]
    have ry77 : (0 : Int) ≤ y77.toInt ∧ y77.toInt ≤ 80 := by rw [hy77]; exact iG70.2.1 171 26 (0, 80) rfl
    obtain ⟨y78, hy78⟩ : ∃ z : Int32, z = pj_fi G70 171 16 := ⟨_, rfl⟩
    have ey78 : (pj_fi G70 171 16).toInt = y78.toInt := by rw [hy78]
    have ry78 : (0 : Int) ≤ y78.toInt ∧ y78.toInt ≤ 80 := by rw [hy78]; exact iG70.2.1 171 16 (0, 80) rfl
    show pj_X _ _ G70 26 [(1, .int y31), (0, .ref 171)] [.int y69] _
    cases b79 : pj_c1 .eq y69 0 with
    | true =>
      rw [pj_cT]
      have ub79 := pj_u0_eqT b79
      refine pj_X_of (fun r h => pj_R_ifT 33 rfl rfl b79 h) ?_
      refine pj_X_of (fun r h => pj_R_to (G70, 40, [(2, .int (Int32.ofInt 0)), (1, .int y31), (0, .ref 171)], [.int (Int32.ofInt 0), .int ((Int8.ofInt 40).toInt32), .int y31, .ref 171], 0, 0) 40 7 (fun _ => rfl) h) ?_
      have q80 : (pj_fi G70 171 27).toInt = y74.toInt := by rw [show pj_fi G70 171 27 = y74 from hy74.symm]
      have q81 : (pj_fi G70 171 17).toInt = y75.toInt := by rw [show pj_fi G70 171 17 = y75 from hy75.symm]
      have q82 : (pj_fi G70 171 18).toInt = y76.toInt := by rw [show pj_fi G70 171 18 = y76 from hy76.symm]
      have q83 : (pj_fi G70 171 26).toInt = y77.toInt := by rw [show pj_fi G70 171 26 = y77 from hy77.symm]
      have q84 : (pj_fi G70 171 16).toInt = y78.toInt := by rw [show pj_fi G70 171 16 = y78 from hy78.symm]
      refine pj_X_ca (vs := [.ref 171, .int y31, .int ((Int8.ofInt 40).toInt32), .int (Int32.ofInt 0)]) rfl (fun _ => rfl) ⟨Nat.le_of_ble_eq_true rfl, Nat.le_of_ble_eq_true rfl, pj_T_rcv iG70 rfl⟩ ⟨rfl, rfl⟩ (pj_Y_up (by decide) (ct_188x G70 iG70 y31 ((Int8.ofInt 40).toInt32) (Int32.ofInt 0) ⟨by omega, by omega⟩ ⟨by omega, by omega⟩ ⟨by omega, by omega⟩)) ?_
      rintro _ _ ⟨y85, rfl, rfl, ry85, ey85, fy85⟩
      replace ey85 := ey85 _ rfl
      rw [← fy85, pj_nm_e]
      show pj_X _ _ G70 43 [(2, .int (Int32.ofInt 0)), (1, .int y31), (0, .ref 171)] [.int y85] _
      refine pj_X_of (fun r h => pj_R_to (G70, 45, [(3, .int y85), (2, .int (Int32.ofInt 0)), (1, .int y31), (0, .ref 171)], [.int y85], 0, 0) 45 3 (fun _ => rfl) h) ?_
      cases b86 : pj_c1 .ge y85 0 with
      | true =>
        rw [pj_cT]
        have ub86 := pj_u0_geT b86
        refine pj_X_of (fun r h => pj_R_ifT 50 rfl rfl b86 h) ?_
        refine pj_X_of (fun r h => pj_R_to (G70, 52, [(3, .int y85), (2, .int (Int32.ofInt 0)), (1, .int y31), (0, .ref 171)], [.ref 171, .ref 171], 0, 0) 52 3 (fun _ => rfl) h) ?_
        refine pj_X_of (fun r h => pj_T_gi iG70 rfl rfl h) ?_
        show pj_X _ _ G70 55 [(3, .int y85), (2, .int (Int32.ofInt 0)), (1, .int y31), (0, .ref 171)] [.int (pj_fi G70 171 27), .ref 171] _
        rw [← hy74, pj_nm_e]
        refine pj_X_of (fun r h => pj_T_pf iG70 rfl rfl rfl h) ?_
        show pj_X _ _ (pj_wv G70 171 26 (.int y74)) 58 [(3, .int y85), (2, .int (Int32.ofInt 0)), (1, .int y31), (0, .ref 171)] [] _
        obtain ⟨G87, hG87⟩ : ∃ H, H = pj_wv G70 171 26 (.int y74) := ⟨_, rfl⟩
        have iG87 : pj_Inv G87 := by rw [hG87]; exact pj_Inv_wi iG70 (ci := 12) rfl (fun q hq => by cases hq; exact ⟨by show (0 : Int) ≤ _; omega, by show _ ≤ (80 : Int); omega⟩)
        have kG87 : pj_kpt kc_200tx G0 G87 := by rw [hG87]; exact pj_kpt_v kG70 rfl
        rw [← hG87]
        rw [pj_nm_e]
        refine pj_X_of (fun r h => pj_R_to (G87, 61, [(4, .int (Int32.ofInt 0)), (3, .int y85), (2, .int (Int32.ofInt 0)), (1, .int y31), (0, .ref 171)], [], 0, 0) 61 3 (fun _ => rfl) h) ?_
        have q88 : (pj_fi G87 171 27).toInt = y74.toInt := by rw [show pj_fi G87 171 27 = y74 from by rw [hG87, pj_fi_wv_ne _ _ _ _ _ _ (by decide)]; exact hy74.symm]
        have q89 : (pj_fi G87 171 17).toInt = y75.toInt := by rw [show pj_fi G87 171 17 = y75 from by rw [hG87, pj_fi_wv_ne _ _ _ _ _ _ (by decide)]; exact hy75.symm]
        have q90 : (pj_fi G87 171 18).toInt = y76.toInt := by rw [show pj_fi G87 171 18 = y76 from by rw [hG87, pj_fi_wv_ne _ _ _ _ _ _ (by decide)]; exact hy76.symm]
        have q91 : (pj_fi G87 171 26).toInt = y74.toInt := by rw [show pj_fi G87 171 26 = y74 from by rw [hG87]; exact pj_fi_wi iG70.1 (ci := 12) rfl _]
        have q92 : (pj_fi G87 171 16).toInt = y78.toInt := by rw [show pj_fi G87 171 16 = y78 from by rw [hG87, pj_fi_wv_ne _ _ _ _ _ _ (by decide)]; exact hy78.symm]
        have hv1 : pj_vr G70 (pj_fi G70 171 27).toInt := pj_vr_q (ey69.2.2 (by omega)) (by omega)
        exact pj_X_sub [(0, .ref 171), (1, .int y31), (2, .int (Int32.ofInt 0)), (3, .int y85), (4, .int (Int32.ofInt 0))] (show List.Nodup [0, 1, 2, 3, 4] by decide) ⟨rfl, rfl, rfl, rfl, rfl, trivial⟩ ((lp_ct_200tx G0 hI   p0_ 81) G87 iG87 kG87 y31 (Int32.ofInt 0) y85 (Int32.ofInt 0) ⟨by omega, by omega⟩ ⟨by omega, by omega⟩ ⟨by omega, by omega⟩ ⟨by omega, by omega⟩ (fun j hj => absurd hj (by omega)) (by rw [show pj_fi G87 171 27 = pj_fi G70 171 27 from by rw [hG87, pj_fi_wv_ne _ _ _ _ _ _ (by decide)]]; exact pj_vr_k (fun j => by rw [hG87, pj_ai_wv]) hv1) (by omega) (by omega) (by omega))
      | false =>
        rw [pj_cF]
        have ub86 := pj_u0_geF b86
        refine pj_X_of (fun r h => pj_R_ifF rfl b86 h) ?_
        refine pj_X_of (fun r h => pj_R_to (G70, 49, [(3, .int y85), (2, .int (Int32.ofInt 0)), (1, .int y31), (0, .ref 171)], [.int y85], 0, 0) 49 2 (fun _ => rfl) h) ?_
        have q93 : (pj_fi G70 171 27).toInt = y74.toInt := by rw [show pj_fi G70 171 27 = y74 from hy74.symm]
        have q94 : (pj_fi G70 171 17).toInt = y75.toInt := by rw [show pj_fi G70 171 17 = y75 from hy75.symm]
        have q95 : (pj_fi G70 171 18).toInt = y76.toInt := by rw [show pj_fi G70 171 18 = y76 from hy76.symm]
        have q96 : (pj_fi G70 171 26).toInt = y77.toInt := by rw [show pj_fi G70 171 26 = y77 from hy77.symm]
        have q97 : (pj_fi G70 171 16).toInt = y78.toInt := by rw [show pj_fi G70 171 16 = y78 from hy78.symm]
        have t98 : pj_kpt ([(171, 0), (171, 16), (171, 17), (171, 18), (171, 19), (171, 27)], [171, 183], [183]) G0 G0 := pj_kpt_r _ _
        have t99 : pj_kpt ([(171, 0), (171, 16), (171, 17), (171, 18), (171, 19), (171, 27)], [171, 183], [183]) G0 G25 := by rw [hG25]; exact pj_kpt_v t98 rfl
        have t100 : pj_kpt ([(171, 0), (171, 16), (171, 17), (171, 18), (171, 19), (171, 27)], [171, 183], [183]) G0 G32 := pj_kpt_t t99 (pj_kpt_s jG32 rfl)
        have t101 : pj_kpt ([(171, 0), (171, 16), (171, 17), (171, 18), (171, 19), (171, 27)], [171, 183], [183]) G0 G40 := by rw [hG40]; exact pj_kpt_v t100 rfl
        have t102 : pj_kpt ([(171, 0), (171, 16), (171, 17), (171, 18), (171, 19), (171, 27)], [171, 183], [183]) G0 G70 := pj_kpt_t t101 (pj_kpt_s jG70 rfl)
        exact pj_X_rt rfl rfl ⟨_, rfl, iG70, kG70, pj_i32 _, ⟨pj_RI_k p0_ t102 rfl, by omega⟩, rfl⟩
    | false =>
      rw [pj_cF]
      have ub79 := pj_u0_eqF b79
      refine pj_X_of (fun r h => pj_R_ifF rfl b79 h) ?_
      refine pj_X_of (fun r h => pj_R_to (G70, 40, [(2, .int (Int32.ofInt 1)), (1, .int y31), (0, .ref 171)], [.int (Int32.ofInt 1), .int ((Int8.ofInt 40).toInt32), .int y31, .ref 171], 0, 0) 40 8 (fun _ => rfl) h) ?_
      have q103 : (pj_fi G70 171 27).toInt = y74.toInt := by rw [show pj_fi G70 171 27 = y74 from hy74.symm]
      have q104 : (pj_fi G70 171 17).toInt = y75.toInt := by rw [show pj_fi G70 171 17 = y75 from hy75.symm]
      have q105 : (pj_fi G70 171 18).toInt = y76.toInt := by rw [show pj_fi G70 171 18 = y76 from hy76.symm]
      have q106 : (pj_fi G70 171 26).toInt = y77.toInt := by rw [show pj_fi G70 171 26 = y77 from hy77.symm]
      have q107 : (pj_fi G70 171 16).toInt = y78.toInt := by rw [show pj_fi G70 171 16 = y78 from hy78.symm]
      refine pj_X_ca (vs := [.ref 171, .int y31, .int ((Int8.ofInt 40).toInt32), .int (Int32.ofInt 1)]) rfl (fun _ => rfl) ⟨Nat.le_of_ble_eq_true rfl, Nat.le_of_ble_eq_true rfl, pj_T_rcv iG70 rfl⟩ ⟨rfl, rfl⟩ (pj_Y_up (by decide) (ct_188x G70 iG70 y31 ((Int8.ofInt 40).toInt32) (Int32.ofInt 1) ⟨by omega, by omega⟩ ⟨by omega, by omega⟩ ⟨by omega, by omega⟩)) ?_
      rintro _ _ ⟨y108, rfl, rfl, ry108, ey108, fy108⟩
      replace ey108 := ey108 _ rfl
      rw [← fy108, pj_nm_e]
      show pj_X _ _ G70 43 [(2, .int (Int32.ofInt 1)), (1, .int y31), (0, .ref 171)] [.int y108] _
      refine pj_X_of (fun r h => pj_R_to (G70, 45, [(3, .int y108), (2, .int (Int32.ofInt 1)), (1, .int y31), (0, .ref 171)], [.int y108], 0, 0) 45 3 (fun _ => rfl) h) ?_
      cases b109 : pj_c1 .ge y108 0 with
      | true =>
        rw [pj_cT]
        have ub109 := pj_u0_geT b109
        refine pj_X_of (fun r h => pj_R_ifT 50 rfl rfl b109 h) ?_
        refine pj_X_of (fun r h => pj_R_to (G70, 52, [(3, .int y108), (2, .int (Int32.ofInt 1)), (1, .int y31), (0, .ref 171)], [.ref 171, .ref 171], 0, 0) 52 3 (fun _ => rfl) h) ?_
        refine pj_X_of (fun r h => pj_T_gi iG70 rfl rfl h) ?_
        show pj_X _ _ G70 55 [(3, .int y108), (2, .int (Int32.ofInt 1)), (1, .int y31), (0, .ref 171)] [.int (pj_fi G70 171 27), .ref 171] _
        rw [← hy74, pj_nm_e]
        refine pj_X_of (fun r h => pj_T_pf iG70 rfl rfl rfl h) ?_
        show pj_X _ _ (pj_wv G70 171 26 (.int y74)) 58 [(3, .int y108), (2, .int (Int32.ofInt 1)), (1, .int y31), (0, .ref 171)] [] _
        obtain ⟨G110, hG110⟩ : ∃ H, H = pj_wv G70 171 26 (.int y74) := ⟨_, rfl⟩
        have iG110 : pj_Inv G110 := by rw [hG110]; exact pj_Inv_wi iG70 (ci := 12) rfl (fun q hq => by cases hq; exact ⟨by show (0 : Int) ≤ _; omega, by show _ ≤ (80 : Int); omega⟩)
        have kG110 : pj_kpt kc_200tx G0 G110 := by rw [hG110]; exact pj_kpt_v kG70 rfl
        rw [← hG110]
        rw [pj_nm_e]
        refine pj_X_of (fun r h => pj_R_to (G110, 61, [(4, .int (Int32.ofInt 0)), (3, .int y108), (2, .int (Int32.ofInt 1)), (1, .int y31), (0, .ref 171)], [], 0, 0) 61 3 (fun _ => rfl) h) ?_
        have q111 : (pj_fi G110 171 27).toInt = y74.toInt := by rw [show pj_fi G110 171 27 = y74 from by rw [hG110, pj_fi_wv_ne _ _ _ _ _ _ (by decide)]; exact hy74.symm]
        have q112 : (pj_fi G110 171 17).toInt = y75.toInt := by rw [show pj_fi G110 171 17 = y75 from by rw [hG110, pj_fi_wv_ne _ _ _ _ _ _ (by decide)]; exact hy75.symm]
        have q113 : (pj_fi G110 171 18).toInt = y76.toInt := by rw [show pj_fi G110 171 18 = y76 from by rw [hG110, pj_fi_wv_ne _ _ _ _ _ _ (by decide)]; exact hy76.symm]
        have q114 : (pj_fi G110 171 26).toInt = y74.toInt := by rw [show pj_fi G110 171 26 = y74 from by rw [hG110]; exact pj_fi_wi iG70.1 (ci := 12) rfl _]
        have q115 : (pj_fi G110 171 16).toInt = y78.toInt := by rw [show pj_fi G110 171 16 = y78 from by rw [hG110, pj_fi_wv_ne _ _ _ _ _ _ (by decide)]; exact hy78.symm]
        have hv1 : pj_vr G70 (pj_fi G70 171 27).toInt := pj_vr_q (ey69.2.2 (by omega)) (by omega)
        exact pj_X_sub [(0, .ref 171), (1, .int y31), (2, .int (Int32.ofInt 1)), (3, .int y108), (4, .int (Int32.ofInt 0))] (show List.Nodup [0, 1, 2, 3, 4] by decide) ⟨rfl, rfl, rfl, rfl, rfl, trivial⟩ ((lp_ct_200tx G0 hI   p0_ 81) G110 iG110 kG110 y31 (Int32.ofInt 1) y108 (Int32.ofInt 0) ⟨by omega, by omega⟩ ⟨by omega, by omega⟩ ⟨by omega, by omega⟩ ⟨by omega, by omega⟩ (fun j hj => absurd hj (by omega)) (by rw [show pj_fi G110 171 27 = pj_fi G70 171 27 from by rw [hG110, pj_fi_wv_ne _ _ _ _ _ _ (by decide)]]; exact pj_vr_k (fun j => by rw [hG110, pj_ai_wv]) hv1) (by omega) (by omega) (by omega))
      | false =>
        rw [pj_cF]
        have ub109 := pj_u0_geF b109
        refine pj_X_of (fun r h => pj_R_ifF rfl b109 h) ?_
        refine pj_X_of (fun r h => pj_R_to (G70, 49, [(3, .int y108), (2, .int (Int32.ofInt 1)), (1, .int y31), (0, .ref 171)], [.int y108], 0, 0) 49 2 (fun _ => rfl) h) ?_
        have q116 : (pj_fi G70 171 27).toInt = y74.toInt := by rw [show pj_fi G70 171 27 = y74 from hy74.symm]
        have q117 : (pj_fi G70 171 17).toInt = y75.toInt := by rw [show pj_fi G70 171 17 = y75 from hy75.symm]
        have q118 : (pj_fi G70 171 18).toInt = y76.toInt := by rw [show pj_fi G70 171 18 = y76 from hy76.symm]
        have q119 : (pj_fi G70 171 26).toInt = y77.toInt := by rw [show pj_fi G70 171 26 = y77 from hy77.symm]
        have q120 : (pj_fi G70 171 16).toInt = y78.toInt := by rw [show pj_fi G70 171 16 = y78 from hy78.symm]
        have t121 : pj_kpt ([(171, 0), (171, 16), (171, 17), (171, 18), (171, 19), (171, 27)], [171, 183], [183]) G0 G0 := pj_kpt_r _ _
        have t122 : pj_kpt ([(171, 0), (171, 16), (171, 17), (171, 18), (171, 19), (171, 27)], [171, 183], [183]) G0 G25 := by rw [hG25]; exact pj_kpt_v t121 rfl
        have t123 : pj_kpt ([(171, 0), (171, 16), (171, 17), (171, 18), (171, 19), (171, 27)], [171, 183], [183]) G0 G32 := pj_kpt_t t122 (pj_kpt_s jG32 rfl)
        have t124 : pj_kpt ([(171, 0), (171, 16), (171, 17), (171, 18), (171, 19), (171, 27)], [171, 183], [183]) G0 G40 := by rw [hG40]; exact pj_kpt_v t123 rfl
        have t125 : pj_kpt ([(171, 0), (171, 16), (171, 17), (171, 18), (171, 19), (171, 27)], [171, 183], [183]) G0 G70 := pj_kpt_t t124 (pj_kpt_s jG70 rfl)
        exact pj_X_rt rfl rfl ⟨_, rfl, iG70, kG70, pj_i32 _, ⟨pj_RI_k p0_ t125 rfl, by omega⟩, rfl⟩
theorem fr_201tx (G0 : pj_G) (hI : pj_Inv G0) (p0_ : pj_RI G0) : pj_Inv (F_201tx G0).2 ∧ pj_kpt kc_200tx G0 (F_201tx G0).2 ∧ (pj_RI (F_201tx G0).2 ∧ (pj_fi (F_201tx G0).2 171 16).toInt = 0) := by
  obtain ⟨v, G', -, y, -, i, j, r, x, e⟩ := ct_200tx G0 hI p0_
  rw [← e]
  exact ⟨i, j, x⟩
