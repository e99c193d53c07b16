theorem pj_far_k {G G' : pj_G} {g op : Int32} (h1 : ∀ j, pj_ai G' 190 j = pj_ai G 190 j) (h2 : ∀ j, pj_ai G' 173 j = pj_ai G 173 j) (h3 : ∀ j, pj_ai G' 174 j = pj_ai G 174 j) (e1 : pj_fi G' 171 4 = pj_fi G 171 4) (e2 : pj_fi G' 171 3 = pj_fi G 171 3) (h : pj_far G g op) : pj_far G' g op := by
  unfold pj_far
  rw [pj_ed_k h2 h3, e1, e2, show pj_fa G' = pj_fa G from funext (fun j => by show (pj_ai G' 190 j).toInt = _; rw [h1]; rfl)]
  exact h
def pj_nx (G : pj_G) (op b : Int32) (k : Int) : Prop := ∃ c : Int32, (k ≤ c.toInt ∧ 0 ≤ c.toInt ∧ c.toInt < (pj_fi G 171 4).toInt ∧ c.toInt ≤ 9) ∧ pj_bit op c ∧ ∃ u : Nat, u < 8 ∧ (((pj_ai G 173 c.toInt.toNat).toInt = u ∧ (pj_ai G 174 c.toInt.toNat).toInt = b.toInt) ∨ ((pj_ai G 173 c.toInt.toNat).toInt = b.toInt ∧ (pj_ai G 174 c.toInt.toNat).toInt = u)) ∧ (pj_ai G 190 u).toInt = (pj_ai G 190 b.toInt.toNat).toInt - 1
theorem pj_nx_s {G : pj_G} {op b : Int32} {k : Int} (h : pj_nx G op b k) (hne : ∀ c : Int32, c.toInt = k → pj_bit op c → ∀ u : Nat, u < 8 → (((pj_ai G 173 c.toInt.toNat).toInt = u ∧ (pj_ai G 174 c.toInt.toNat).toInt = b.toInt) ∨ ((pj_ai G 173 c.toInt.toNat).toInt = b.toInt ∧ (pj_ai G 174 c.toInt.toNat).toInt = u)) → (pj_ai G 190 u).toInt = (pj_ai G 190 b.toInt.toNat).toInt - 1 → False) : pj_nx G op b (k + 1) := by
  obtain ⟨c, h1, h2, u, h3, h4, h5⟩ := h
  by_cases e : c.toInt = k
  · exact absurd (hne c e h2 u h3 h4 h5) id
  · exact ⟨c, ⟨by omega, h1.2.1, h1.2.2.1, h1.2.2.2⟩, h2, u, h3, h4, h5⟩
theorem pj_go {G : pj_G} {g op : Int32} (hI : pj_Inv G) (hR : pj_RI G) (h : pj_far G g op) (h0 : 0 ≤ g.toInt) (h1 : g.toInt < (pj_fi G 171 3).toInt) (b : Int32) (hb0 : 0 ≤ b.toInt) (hb : b.toInt ≤ 7) (hf : (pj_ai G 190 b.toInt.toNat).toInt < 1000) : (0 ≤ (pj_ai G 190 b.toInt.toNat).toInt ∧ (pj_ai G 190 b.toInt.toNat).toInt ≤ 7) ∧ (b.toInt ≠ g.toInt → pj_nx G op b 0) := by
  have hb8 : (pj_fi G 171 3).toInt ≤ 8 := (hI.2.1 171 3 (0, 8) rfl).2
  have hed : ∀ u v, pj_ed G op (pj_fi G 171 4).toInt u v → u < (pj_fi G 171 3).toInt.toNat ∧ v < (pj_fi G 171 3).toInt.toNat := by
    intro u v q
    obtain ⟨c, q1, q2, q3⟩ := q
    have := hR.1 c.toInt.toNat (by omega)
    rcases q3 with q3 | q3
    · omega
    · omega
  have hA : pj_AA (pj_ed G op (pj_fi G 171 4).toInt) ((pj_fi G 171 3).toInt.toNat : Nat) (pj_fa G) := by
    rw [Int.toNat_of_nonneg (by omega)]
    exact h.2
  obtain ⟨w1, w2⟩ := pj_way (B := (pj_fi G 171 3).toInt.toNat) (by omega) (by omega) hed h.1 hA b.toInt.toNat (by omega) hf
  have w1 : (pj_ai G 190 b.toInt.toNat).toInt ≤ ((pj_fi G 171 3).toInt.toNat : Nat) - 1 := w1
  have w0 : 0 ≤ (pj_ai G 190 b.toInt.toNat).toInt := pj_W_nn h.1 b.toInt.toNat (by omega)
  refine ⟨⟨w0, by omega⟩, fun hg => ?_⟩
  obtain ⟨u, r1, r2⟩ := w2 (by omega)
  have r8 := pj_ed_8 hI r1
  obtain ⟨c, q1, q2, q3⟩ := r1
  refine ⟨c, ⟨q1.1, q1.1, q1.2.1, q1.2.2⟩, q2, u, r8.1, ?_, r2⟩
  rcases q3 with q3 | q3
  · exact Or.inl ⟨q3.1, by omega⟩
  · exact Or.inr ⟨by omega, q3.2⟩
def kc_174fx : pj_KT := ([(171, 1)], [171, 172], [])
noncomputable def F_175fx (G0 : pj_G) (w : Int64) : pj_G := pj_nm (pj_fi G0 171 1) (fun y1 => pj_nm (pj_wl G0 172 y1.toInt.toNat w) (fun G2 => pj_nm (y1 + (Int32.ofInt 1)) (fun z3 => pj_nm (pj_wv G2 171 1 (.int z3)) (fun G4 => G4))))
theorem F_175fx_e (G0 : pj_G) (w : Int64) : F_175fx G0 w = pj_nm (pj_fi G0 171 1) (fun y1 => pj_nm (pj_wl G0 172 y1.toInt.toNat w) (fun G2 => pj_nm (y1 + (Int32.ofInt 1)) (fun z3 => pj_nm (pj_wv G2 171 1 (.int z3)) (fun G4 => G4)))) := rfl
theorem ct_174fx (G0 : pj_G) (hI : pj_Inv G0) (w : Int64) (p0_ : (pj_fi G0 171 1).toInt ≤ 23) : pj_Y 1 174 [.ref 171, .long w] G0 (fun v' G' => v' = none ∧ pj_Inv G' ∧ pj_kpt kc_174fx G0 G' ∧ (∀ H, G0 = H → ((pj_fi G' 171 1).toInt = (pj_fi H 171 1).toInt + 1)) ∧ (G' = F_175fx G0 w)) := by
  have c0_ : (Int32.ofInt 1).toInt = 1 := by decide
  refine pj_Y_X (M := pj_m174) rfl rfl (Nat.le_of_ble_eq_true rfl) ?_
  have hK : pj_kpt kc_174fx G0 G0 := pj_kpt_r _ _
  show pj_X _ _ G0 0 [(0, .ref 171), (1, .long w)] [] _
  rw [F_175fx_e]
  obtain ⟨y1, hy1⟩ : ∃ z : Int32, z = pj_fi G0 171 1 := ⟨_, rfl⟩
  have ey1 : (pj_fi G0 171 1).toInt = y1.toInt := by rw [hy1]
  have ry1 : (0 : Int) ≤ y1.toInt ∧ y1.toInt ≤ 24 := by rw [hy1]; exact hI.2.1 171 1 (0, 24) rfl
  refine pj_X_of (fun r h => pj_R_to (G0, 1, [(0, .ref 171), (1, .long w)], [.ref 171], 0, 0) 1 2 (fun _ => rfl) h) ?_
  refine pj_X_of (fun r h => pj_T_gr hI rfl rfl rfl h) ?_
  refine pj_X_of (fun r h => pj_R_to (G0, 5, [(0, .ref 171), (1, .long w)], [.ref 171, .ref 172], 0, 0) 5 2 (fun _ => rfl) h) ?_
  refine pj_X_of (fun r h => pj_T_gi hI rfl rfl h) ?_
  show pj_X _ _ G0 8 [(0, .ref 171), (1, .long w)] [.int (pj_fi G0 171 1), .ref 172] _
  rw [← hy1, pj_nm_e]
  refine pj_X_of (fun r h => pj_R_to (G0, 9, [(0, .ref 171), (1, .long w)], [.long w, .int y1, .ref 172], 0, 0) 9 2 (fun _ => rfl) h) ?_
  refine pj_X_of (fun r h => pj_T_ls hI rfl rfl (by omega) (by omega) h) ?_
  show pj_X _ _ (pj_wl G0 172 y1.toInt.toNat w) 10 [(0, .ref 171), (1, .long w)] [] _
  obtain ⟨G2, hG2⟩ : ∃ H, H = pj_wl G0 172 y1.toInt.toNat w := ⟨_, rfl⟩
  have iG2 : pj_Inv G2 := by rw [hG2]; exact pj_Inv_wl hI rfl
  have kG2 : pj_kpt kc_174fx G0 G2 := by rw [hG2]; exact pj_kpt_l hK rfl
  rw [← hG2]
  rw [pj_nm_e]
  refine pj_X_of (fun r h => pj_R_to (G2, 12, [(0, .ref 171), (1, .long w)], [.ref 171, .ref 171], 0, 0) 12 3 (fun _ => rfl) h) ?_
  refine pj_X_of (fun r h => pj_T_gi iG2 rfl rfl h) ?_
  show pj_X _ _ G2 15 [(0, .ref 171), (1, .long w)] [.int (pj_fi G2 171 1), .ref 171] _
  refine pj_X_eqi (show pj_fi G2 171 1 = y1 from by rw [hG2, pj_fi_wl]; exact hy1.symm) ?_
  refine pj_X_of (fun r h => pj_R_to (G2, 17, [(0, .ref 171), (1, .long w)], [.int (y1 + (Int32.ofInt 1)), .ref 171], 0, 0) 17 3 (fun _ => rfl) h) ?_
  obtain ⟨z3, hz3⟩ : ∃ z : Int32, z = y1 + (Int32.ofInt 1) := ⟨_, rfl⟩
  refine pj_X_eqi hz3.symm ?_
  rw [← hz3, pj_nm_e]
  have fz3_0 : z3.toInt = y1.toInt + (Int32.ofInt 1).toInt := by rw [hz3]; exact pj_addI (by have := pj_i32 y1; have := pj_i32 (Int32.ofInt 1); omega) (by have := pj_i32 y1; have := pj_i32 (Int32.ofInt 1); omega)
  refine pj_X_of (fun r h => pj_T_pf iG2 rfl rfl rfl h) ?_
  show pj_X _ _ (pj_wv G2 171 1 (.int z3)) 20 [(0, .ref 171), (1, .long w)] [] _
  obtain ⟨G4, hG4⟩ : ∃ H, H = pj_wv G2 171 1 (.int z3) := ⟨_, rfl⟩
  have iG4 : pj_Inv G4 := by rw [hG4]; exact pj_Inv_wi iG2 (ci := 12) rfl (fun q hq => by cases hq; exact ⟨by show (0 : Int) ≤ _; omega, by show _ ≤ (24 : Int); omega⟩)
  have kG4 : pj_kpt kc_174fx G0 G4 := by rw [hG4]; exact pj_kpt_v kG2 rfl
  rw [← hG4]
  rw [pj_nm_e]
  have q5 : (pj_fi G4 171 1).toInt = z3.toInt := by rw [show pj_fi G4 171 1 = z3 from by rw [hG4]; exact pj_fi_wi iG2.1 (ci := 12) rfl _]
  exact pj_X_rt rfl rfl ⟨rfl, iG4, kG4, (fun H hH => by subst hH; exact (by omega)), rfl⟩
theorem fr_175fx (G0 : pj_G) (hI : pj_Inv G0) (w : Int64) (p0_ : (pj_fi G0 171 1).toInt ≤ 23) : pj_Inv (F_175fx G0 w) ∧ pj_kpt kc_174fx G0 (F_175fx G0 w) ∧ ((pj_fi (F_175fx G0 w) 171 1).toInt = (pj_fi G0 171 1).toInt + 1) := by
  obtain ⟨v, G', -, -, i, j, x, e⟩ := ct_174fx G0 hI w p0_
  rw [← e]
  exact ⟨i, j, x _ rfl⟩
def kc_233 : pj_KT := ([(171, 0), (171, 1)], [171, 172, 190], [190])
theorem lp_ct_233 (G0 : pj_G) (hI0 : pj_Inv G0) (p : Int32) (bk : Int32) (p0_ : pj_RI G0) : ∀ mn : Nat, (∀ (G : pj_G) (hI : pj_Inv G) (hK : pj_kpt kc_233 G0 G) (v3 : Int32) (v4 : Int32) (v5 : Int32), ((-2147483648 : Int) ≤ v3.toInt ∧ v3.toInt ≤ 2147483647) → ((0 : Int) ≤ v4.toInt ∧ v4.toInt ≤ 7) → ((-2147483648 : Int) ≤ v5.toInt ∧ v5.toInt ≤ 2147483647) → (pj_far G bk v3) → (0 ≤ (pj_ai G 190 v4.toInt.toNat).toInt ∧ (pj_fi G 171 1).toInt + (pj_ai G 190 v4.toInt.toNat).toInt ≤ 7) → (0 ≤ bk.toInt ∧ bk.toInt < (pj_fi G 171 3).toInt ∧ bk.toInt ≤ 7) → 100 * (pj_ai G 190 v4.toInt.toNat).toInt + 50 < (mn : Int) → pj_X 5 pj_m233 G 77 [(0, .ref 171), (1, .int p), (2, .int bk), (3, .int v3), (4, .int v4), (5, .int v5)] [] (fun v G' => ∃ y : Int32, v = some (.int y) ∧ pj_Inv G' ∧ pj_kpt kc_233 G0 G' ∧ ((-2147483648 : Int) ≤ y.toInt ∧ y.toInt ≤ 2147483647))) ∧ (∀ (G : pj_G) (hI : pj_Inv G) (hK : pj_kpt kc_233 G0 G) (v3 : Int32) (v4 : Int32) (v5 : Int32) (v6 : Int32), ((-2147483648 : Int) ≤ v3.toInt ∧ v3.toInt ≤ 2147483647) → ((0 : Int) ≤ v4.toInt ∧ v4.toInt ≤ 7) → ((-2147483648 : Int) ≤ v5.toInt ∧ v5.toInt ≤ 2147483647) → ((0 : Int) ≤ v6.toInt ∧ v6.toInt ≤ 10) → (pj_far G bk v3) → (pj_nx G v3 v4 v6.toInt) → (0 ≤ (pj_ai G 190 v4.toInt.toNat).toInt ∧ (pj_fi G 171 1).toInt + (pj_ai G 190 v4.toInt.toNat).toInt ≤ 7) → (0 ≤ bk.toInt ∧ bk.toInt < (pj_fi G 171 3).toInt ∧ bk.toInt ≤ 7) → 100 * (pj_ai G 190 v4.toInt.toNat).toInt + 40 - v6.toInt < (mn : Int) → pj_X 5 pj_m233 G 86 [(0, .ref 171), (1, .int p), (2, .int bk), (3, .int v3), (4, .int v4), (5, .int v5), (6, .int v6)] [] (fun v G' => ∃ y : Int32, v = some (.int y) ∧ pj_Inv G' ∧ pj_kpt kc_233 G0 G' ∧ ((-2147483648 : Int) ≤ y.toInt ∧ y.toInt ≤ 2147483647))) := by
  have c0_ : ((Int16.ofInt 1000).toInt32).toInt = 1000 := by decide
  have c1_ : ((Int8.ofInt (-2)).toInt32).toInt = -2 := by decide
  have c2_ : ((Int8.ofInt 24).toInt32).toInt = 24 := by decide
  have c3_ : (Int32.ofInt (-1)).toInt = -1 := by decide
  have c4_ : (Int32.ofInt 0).toInt = 0 := by decide
  have c5_ : (Int32.ofInt 1).toInt = 1 := by decide
  intro mn
  induction mn with
  | zero =>
    refine ⟨?_, ?_⟩
    · intro G hI hK v3 v4 v5 rv3 rv4 rv5 x0_ x1_ x2_ hm
      exfalso
      omega
    · intro G hI hK v3 v4 v5 v6 rv3 rv4 rv5 rv6 x0_ x1_ x2_ x3_ hm
      exfalso
      omega
  | succ mn ih =>
    refine ⟨?_, ?_⟩
    · intro G hI hK v3 v4 v5 rv3 rv4 rv5 x0_ x1_ x2_ hm
      obtain ⟨y1, hy1⟩ : ∃ z : Int32, z = pj_fi G 171 1 := ⟨_, rfl⟩
      have ey1 : (pj_fi G 171 1).toInt = y1.toInt := by rw [hy1]
      have ry1 : (0 : Int) ≤ y1.toInt ∧ y1.toInt ≤ 24 := by rw [hy1]; exact hI.2.1 171 1 (0, 24) rfl
      obtain ⟨y2, hy2⟩ : ∃ z : Int32, z = pj_fi G 171 3 := ⟨_, rfl⟩
      have ey2 : (pj_fi G 171 3).toInt = y2.toInt := by rw [hy2]
      have ry2 : (0 : Int) ≤ y2.toInt ∧ y2.toInt ≤ 8 := by rw [hy2]; exact hI.2.1 171 3 (0, 8) rfl
      obtain ⟨y3, hy3⟩ : ∃ z : Int32, z = pj_fi G 171 4 := ⟨_, rfl⟩
      have ey3 : (pj_fi G 171 4).toInt = y3.toInt := by rw [hy3]
      have ry3 : (0 : Int) ≤ y3.toInt ∧ y3.toInt ≤ 10 := by rw [hy3]; exact hI.2.1 171 4 (0, 10) rfl
      refine pj_X_of (fun r h => pj_R_to (G, 80, [(0, .ref 171), (1, .int p), (2, .int bk), (3, .int v3), (4, .int v4), (5, .int v5)], [.int bk, .int v4], 0, 0) 80 3 (fun _ => rfl) h) ?_
      cases b4 : pj_c1 .eq v4 bk with
      | true =>
        have ub4 := pj_u_eqT b4
        refine pj_X_of (fun r h => pj_R_icT 190 rfl rfl b4 h) ?_
        refine pj_X_of (fun r h => pj_R_to (G, 192, [(0, .ref 171), (1, .int p), (2, .int bk), (3, .int v3), (4, .int v4), (5, .int v5)], [.int v5], 0, 0) 192 2 (fun _ => rfl) h) ?_
        have q5 : (pj_fi G 171 1).toInt = y1.toInt := by rw [show pj_fi G 171 1 = y1 from hy1.symm]
        have q6 : (pj_fi G 171 3).toInt = y2.toInt := by rw [show pj_fi G 171 3 = y2 from hy2.symm]
        have q7 : (pj_fi G 171 4).toInt = y3.toInt := by rw [show pj_fi G 171 4 = y3 from hy3.symm]
        exact pj_X_rt rfl rfl ⟨_, rfl, hI, hK, pj_i32 _⟩
      | false =>
        have ub4 := pj_u_eqF b4
        refine pj_X_of (fun r h => pj_R_icF rfl b4 h) ?_
        refine pj_X_of (fun r h => pj_R_to (G, 86, [(6, .int (Int32.ofInt 0)), (0, .ref 171), (1, .int p), (2, .int bk), (3, .int v3), (4, .int v4), (5, .int v5)], [], 0, 0) 86 3 (fun _ => rfl) h) ?_
        have q8 : (pj_fi G 171 1).toInt = y1.toInt := by rw [show pj_fi G 171 1 = y1 from hy1.symm]
        have q9 : (pj_fi G 171 3).toInt = y2.toInt := by rw [show pj_fi G 171 3 = y2 from hy2.symm]
        have q10 : (pj_fi G 171 4).toInt = y3.toInt := by rw [show pj_fi G 171 4 = y3 from hy3.symm]
        have hgo := pj_go hI (pj_RI_k p0_ hK rfl) x0_ (by omega) (by omega) v4 (by omega) (by omega) (by omega)
        exact pj_X_sub [(0, .ref 171), (1, .int p), (2, .int bk), (3, .int v3), (4, .int v4), (5, .int v5), (6, .int (Int32.ofInt 0))] (show List.Nodup [0, 1, 2, 3, 4, 5, 6] by decide) ⟨rfl, rfl, rfl, rfl, rfl, rfl, rfl, trivial⟩ (ih.2 G hI hK v3 v4 v5 (Int32.ofInt 0) (pj_i32 _) ⟨by omega, by omega⟩ (pj_i32 _) ⟨by omega, by omega⟩ x0_ (hgo.2 (by omega)) (by omega) (by omega) (by omega))
    · intro G hI hK v3 v4 v5 v6 rv3 rv4 rv5 rv6 x0_ x1_ x2_ x3_ hm
      obtain ⟨y11, hy11⟩ : ∃ z : Int32, z = pj_fi G 171 1 := ⟨_, rfl⟩
      have ey11 : (pj_fi G 171 1).toInt = y11.toInt := by rw [hy11]
      have ry11 : (0 : Int) ≤ y11.toInt ∧ y11.toInt ≤ 24 := by rw [hy11]; exact hI.2.1 171 1 (0, 24) rfl
      obtain ⟨y12, hy12⟩ : ∃ z : Int32, z = pj_fi G 171 3 := ⟨_, rfl⟩
      have ey12 : (pj_fi G 171 3).toInt = y12.toInt := by rw [hy12]
      have ry12 : (0 : Int) ≤ y12.toInt ∧ y12.toInt ≤ 8 := by rw [hy12]; exact hI.2.1 171 3 (0, 8) rfl
      obtain ⟨y13, hy13⟩ : ∃ z : Int32, z = pj_fi G 171 4 := ⟨_, rfl⟩
      have ey13 : (pj_fi G 171 4).toInt = y13.toInt := by rw [hy13]
      have ry13 : (0 : Int) ≤ y13.toInt ∧ y13.toInt ≤ 10 := by rw [hy13]; exact hI.2.1 171 4 (0, 10) rfl
      have hcc : v6.toInt ≤ 9 := by obtain ⟨cc, hc, -⟩ := x1_; omega
      refine pj_X_of (fun r h => pj_R_to (G, 89, [(0, .ref 171), (1, .int p), (2, .int bk), (3, .int v3), (4, .int v4), (5, .int v5), (6, .int v6)], [.int v6, .int v3], 0, 0) 89 3 (fun _ => rfl) h) ?_
      have q14 : (pj_fi G 171 1).toInt = y11.toInt := by rw [show pj_fi G 171 1 = y11 from hy11.symm]
      have q15 : (pj_fi G 171 3).toInt = y12.toInt := by rw [show pj_fi G 171 3 = y12 from hy12.symm]
      have q16 : (pj_fi G 171 4).toInt = y13.toInt := by rw [show pj_fi G 171 4 = y13 from hy13.symm]
      refine pj_X_ca (vs := [.int v3, .int v6]) rfl (fun _ => rfl) ⟨Nat.le_of_ble_eq_true rfl, Nat.le_of_ble_eq_true rfl, rfl⟩ ⟨rfl, rfl⟩ (pj_Y_up (by decide) (ct_171cx G hI v3 v6)) ?_
      rintro _ _ ⟨y17, rfl, rfl, ry17, ey17, fy17⟩
      show pj_X _ _ G 92 [(0, .ref 171), (1, .int p), (2, .int bk), (3, .int v3), (4, .int v4), (5, .int v5), (6, .int v6)] [.int y17] _
      cases b18 : pj_c1 .eq y17 0 with
      | true =>
        have ub18 := pj_u0_eqT b18
        refine pj_X_of (fun r h => pj_R_ifT 154 rfl rfl b18 h) ?_
        refine pj_X_of (fun r h => pj_R_to (G, 157, [(6, .int (v6 + Int32.ofInt 1)), (0, .ref 171), (1, .int p), (2, .int bk), (3, .int v3), (4, .int v4), (5, .int v5)], [], 0, 0) 157 2 (fun _ => rfl) h) ?_
        obtain ⟨z19, hz19⟩ : ∃ z : Int32, z = v6 + Int32.ofInt 1 := ⟨_, rfl⟩
        rw [← hz19]
        have fz19_0 : z19.toInt = v6.toInt + (Int32.ofInt 1).toInt := by rw [hz19]; exact pj_addI (by have := pj_i32 v6; have := pj_i32 (Int32.ofInt 1); omega) (by have := pj_i32 v6; have := pj_i32 (Int32.ofInt 1); omega)
        refine pj_X_of (fun r h => pj_R_to (G, 86, [(6, .int z19), (0, .ref 171), (1, .int p), (2, .int bk), (3, .int v3), (4, .int v4), (5, .int v5)], [], 0, 0) 86 2 (fun _ => rfl) h) ?_
        have q20 : (pj_fi G 171 1).toInt = y11.toInt := by rw [show pj_fi G 171 1 = y11 from hy11.symm]
        have q21 : (pj_fi G 171 3).toInt = y12.toInt := by rw [show pj_fi G 171 3 = y12 from hy12.symm]
        have q22 : (pj_fi G 171 4).toInt = y13.toInt := by rw [show pj_fi G 171 4 = y13 from hy13.symm]
        exact pj_X_sub [(0, .ref 171), (1, .int p), (2, .int bk), (3, .int v3), (4, .int v4), (5, .int v5), (6, .int z19)] (show List.Nodup [0, 1, 2, 3, 4, 5, 6] by decide) ⟨rfl, rfl, rfl, rfl, rfl, rfl, rfl, trivial⟩ (ih.2 G hI hK v3 v4 v5 z19 (pj_i32 _) ⟨by omega, by omega⟩ (pj_i32 _) ⟨by omega, by omega⟩ x0_ (by rw [show z19.toInt = v6.toInt + 1 by omega]; exact pj_nx_s x1_ (fun c hc hb u hu hd hf => by have ec : c = v6 := (Int32.toInt_inj.mp hc); subst ec; first | exact absurd hb (ey17.2 (by omega)) | omega)) (by omega) (by omega) (by omega))
      | false =>
        have ub18 := pj_u0_eqF b18
        refine pj_X_of (fun r h => pj_R_ifF rfl b18 h) ?_
        refine pj_X_of (fun r h => pj_R_to (G, 96, [(0, .ref 171), (1, .int p), (2, .int bk), (3, .int v3), (4, .int v4), (5, .int v5), (6, .int v6)], [.ref 171], 0, 0) 96 2 (fun _ => rfl) h) ?_
        refine pj_X_of (fun r h => pj_T_gr hI rfl rfl rfl h) ?_
        refine pj_X_of (fun r h => pj_R_to (G, 101, [(0, .ref 171), (1, .int p), (2, .int bk), (3, .int v3), (4, .int v4), (5, .int v5), (6, .int v6)], [.int v6, .ref 173], 0, 0) 101 2 (fun _ => rfl) h) ?_
        refine pj_X_of (fun r h => pj_T_il hI rfl rfl (by omega) (by omega) h) ?_
        show pj_X _ _ G 102 [(0, .ref 171), (1, .int p), (2, .int bk), (3, .int v3), (4, .int v4), (5, .int v5), (6, .int v6)] [.int (pj_ai G 173 v6.toInt.toNat)] _
        obtain ⟨z23, hz23⟩ : ∃ z : Int32, z = pj_ai G 173 v6.toInt.toNat := ⟨_, rfl⟩
        refine pj_X_eqi hz23.symm ?_
        have ez23 : (pj_ai G 173 v6.toInt.toNat).toInt = z23.toInt := by rw [hz23]
        have fz23_0 : (0 : Int) ≤ z23.toInt ∧ z23.toInt ≤ 7 ∧ (z23.toInt ≤ 0 ∨ 0 ≤ z23.toInt) := by rw [hz23]; exact hI.2.2.1 173 (10, 0, 7, 0, 0) rfl _ (by show _ < 10; omega)
        refine pj_X_of (fun r h => pj_R_to (G, 104, [(0, .ref 171), (1, .int p), (2, .int bk), (3, .int v3), (4, .int v4), (5, .int v5), (6, .int v6)], [.int v4, .int z23], 0, 0) 104 2 (fun _ => rfl) h) ?_
        cases b24 : pj_c1 .eq z23 v4 with
        | true =>
          have ub24 := pj_u_eqT b24
          refine pj_X_of (fun r h => pj_R_icT 119 rfl rfl b24 h) ?_
          refine pj_X_of (fun r h => pj_R_to (G, 120, [(0, .ref 171), (1, .int p), (2, .int bk), (3, .int v3), (4, .int v4), (5, .int v5), (6, .int v6)], [.ref 171], 0, 0) 120 2 (fun _ => rfl) h) ?_
          refine pj_X_of (fun r h => pj_T_gr hI rfl rfl rfl h) ?_
          refine pj_X_of (fun r h => pj_R_to (G, 124, [(0, .ref 171), (1, .int p), (2, .int bk), (3, .int v3), (4, .int v4), (5, .int v5), (6, .int v6)], [.ref 171, .ref 190], 0, 0) 124 2 (fun _ => rfl) h) ?_
          refine pj_X_of (fun r h => pj_T_gr hI rfl rfl rfl h) ?_
          refine pj_X_of (fun r h => pj_R_to (G, 129, [(0, .ref 171), (1, .int p), (2, .int bk), (3, .int v3), (4, .int v4), (5, .int v5), (6, .int v6)], [.int v6, .ref 173, .ref 190], 0, 0) 129 2 (fun _ => rfl) h) ?_
          refine pj_X_of (fun r h => pj_T_il hI rfl rfl (by omega) (by omega) h) ?_
          show pj_X _ _ G 130 [(0, .ref 171), (1, .int p), (2, .int bk), (3, .int v3), (4, .int v4), (5, .int v5), (6, .int v6)] [.int (pj_ai G 173 v6.toInt.toNat), .ref 190] _
          refine pj_X_eqi hz23.symm ?_
          refine pj_X_of (fun r h => pj_R_to (G, 131, [(0, .ref 171), (1, .int p), (2, .int bk), (3, .int v3), (4, .int v4), (5, .int v5), (6, .int v6)], [.ref 171, .int z23, .ref 190], 0, 0) 131 2 (fun _ => rfl) h) ?_
          refine pj_X_of (fun r h => pj_T_gr hI rfl rfl rfl h) ?_
          refine pj_X_of (fun r h => pj_R_to (G, 136, [(0, .ref 171), (1, .int p), (2, .int bk), (3, .int v3), (4, .int v4), (5, .int v5), (6, .int v6)], [.int v6, .ref 174, .int z23, .ref 190], 0, 0) 136 2 (fun _ => rfl) h) ?_
          refine pj_X_of (fun r h => pj_T_il hI rfl rfl (by omega) (by omega) h) ?_
          show pj_X _ _ G 137 [(0, .ref 171), (1, .int p), (2, .int bk), (3, .int v3), (4, .int v4), (5, .int v5), (6, .int v6)] [.int (pj_ai G 174 v6.toInt.toNat), .int z23, .ref 190] _
          obtain ⟨z25, hz25⟩ : ∃ z : Int32, z = pj_ai G 174 v6.toInt.toNat := ⟨_, rfl⟩
          refine pj_X_eqi hz25.symm ?_
          have ez25 : (pj_ai G 174 v6.toInt.toNat).toInt = z25.toInt := by rw [hz25]
          have fz25_0 : (0 : Int) ≤ z25.toInt ∧ z25.toInt ≤ 7 ∧ (z25.toInt ≤ 0 ∨ 0 ≤ z25.toInt) := by rw [hz25]; exact hI.2.2.1 174 (10, 0, 7, 0, 0) rfl _ (by show _ < 10; omega)
          refine pj_X_of (fun r h => pj_R_to (G, 138, [(0, .ref 171), (1, .int p), (2, .int bk), (3, .int v3), (4, .int v4), (5, .int v5), (6, .int v6)], [.int (z23 + z25), .ref 190], 0, 0) 138 2 (fun _ => rfl) h) ?_
          obtain ⟨z26, hz26⟩ : ∃ z : Int32, z = z23 + z25 := ⟨_, rfl⟩
          refine pj_X_eqi hz26.symm ?_
          have fz26_0 : z26.toInt = z23.toInt + z25.toInt := by rw [hz26]; exact pj_addI (by have := pj_i32 z23; have := pj_i32 z25; omega) (by have := pj_i32 z23; have := pj_i32 z25; omega)
          refine pj_X_of (fun r h => pj_R_to (G, 141, [(0, .ref 171), (1, .int p), (2, .int bk), (3, .int v3), (4, .int v4), (5, .int v5), (6, .int v6)], [.int (z26 - v4), .ref 190], 0, 0) 141 3 (fun _ => rfl) h) ?_
          obtain ⟨z27, hz27⟩ : ∃ z : Int32, z = z26 - v4 := ⟨_, rfl⟩
          refine pj_X_eqi hz27.symm ?_
          have fz27_0 : z27.toInt = z26.toInt - v4.toInt := by rw [hz27]; exact pj_subI (by have := pj_i32 z26; have := pj_i32 v4; omega) (by have := pj_i32 z26; have := pj_i32 v4; omega)
          refine pj_X_of (fun r h => pj_T_il hI rfl rfl (by omega) (by omega) h) ?_
          show pj_X _ _ G 142 [(0, .ref 171), (1, .int p), (2, .int bk), (3, .int v3), (4, .int v4), (5, .int v5), (6, .int v6)] [.int (pj_ai G 190 z27.toInt.toNat)] _
          obtain ⟨z28, hz28⟩ : ∃ z : Int32, z = pj_ai G 190 z27.toInt.toNat := ⟨_, rfl⟩
          refine pj_X_eqi hz28.symm ?_
          have ez28 : (pj_ai G 190 z27.toInt.toNat).toInt = z28.toInt := by rw [hz28]
          have fz28_0 : (0 : Int) ≤ z28.toInt ∧ z28.toInt ≤ 1000 ∧ (z28.toInt ≤ 0 ∨ 0 ≤ z28.toInt) := by rw [hz28]; exact hI.2.2.1 190 (8, 0, 1000, 0, 0) rfl _ (by show _ < 8; omega)
          refine pj_X_of (fun r h => pj_R_to (G, 143, [(0, .ref 171), (1, .int p), (2, .int bk), (3, .int v3), (4, .int v4), (5, .int v5), (6, .int v6)], [.ref 171, .int z28], 0, 0) 143 2 (fun _ => rfl) h) ?_
          refine pj_X_of (fun r h => pj_T_gr hI rfl rfl rfl h) ?_
          refine pj_X_of (fun r h => pj_R_to (G, 148, [(0, .ref 171), (1, .int p), (2, .int bk), (3, .int v3), (4, .int v4), (5, .int v5), (6, .int v6)], [.int v4, .ref 190, .int z28], 0, 0) 148 2 (fun _ => rfl) h) ?_
          refine pj_X_of (fun r h => pj_T_il hI rfl rfl (by omega) (by omega) h) ?_
          show pj_X _ _ G 149 [(0, .ref 171), (1, .int p), (2, .int bk), (3, .int v3), (4, .int v4), (5, .int v5), (6, .int v6)] [.int (pj_ai G 190 v4.toInt.toNat), .int z28] _
          obtain ⟨z29, hz29⟩ : ∃ z : Int32, z = pj_ai G 190 v4.toInt.toNat := ⟨_, rfl⟩
          refine pj_X_eqi hz29.symm ?_
          have ez29 : (pj_ai G 190 v4.toInt.toNat).toInt = z29.toInt := by rw [hz29]
          have fz29_0 : (0 : Int) ≤ z29.toInt ∧ z29.toInt ≤ 1000 ∧ (z29.toInt ≤ 0 ∨ 0 ≤ z29.toInt) := by rw [hz29]; exact hI.2.2.1 190 (8, 0, 1000, 0, 0) rfl _ (by show _ < 8; omega)
          refine pj_X_of (fun r h => pj_R_to (G, 151, [(0, .ref 171), (1, .int p), (2, .int bk), (3, .int v3), (4, .int v4), (5, .int v5), (6, .int v6)], [.int (z29 - (Int32.ofInt 1)), .int z28], 0, 0) 151 3 (fun _ => rfl) h) ?_
          obtain ⟨z30, hz30⟩ : ∃ z : Int32, z = z29 - (Int32.ofInt 1) := ⟨_, rfl⟩
          refine pj_X_eqi hz30.symm ?_
          have fz30_0 : z30.toInt = z29.toInt - (Int32.ofInt 1).toInt := by rw [hz30]; exact pj_subI (by have := pj_i32 z29; have := pj_i32 (Int32.ofInt 1); omega) (by have := pj_i32 z29; have := pj_i32 (Int32.ofInt 1); omega)
          cases b31 : pj_c1 .eq z28 z30 with
          | true =>
            have ub31 := pj_u_eqT b31
            refine pj_X_of (fun r h => pj_R_icT 160 rfl rfl b31 h) ?_
            refine pj_X_of (fun r h => pj_R_to (G, 164, [(0, .ref 171), (1, .int p), (2, .int bk), (3, .int v3), (4, .int v4), (5, .int v5), (6, .int v6)], [.long v6.toInt64, .ref 171], 0, 0) 164 4 (fun _ => rfl) h) ?_
            have q32 : (pj_fi G 171 1).toInt = y11.toInt := by rw [show pj_fi G 171 1 = y11 from hy11.symm]
            have q33 : (pj_fi G 171 3).toInt = y12.toInt := by rw [show pj_fi G 171 3 = y12 from hy12.symm]
            have q34 : (pj_fi G 171 4).toInt = y13.toInt := by rw [show pj_fi G 171 4 = y13 from hy13.symm]
            have lc35 : (v6.toInt64).toInt = v6.toInt := Int32.toInt_toInt64 _
            refine pj_X_ca (vs := [.ref 171, .long v6.toInt64]) rfl (fun _ => rfl) ⟨Nat.le_of_ble_eq_true rfl, Nat.le_of_ble_eq_true rfl, pj_T_rcv hI rfl⟩ ⟨rfl, rfl⟩ (pj_Y_up (by decide) (ct_174fx G hI v6.toInt64 (by omega))) ?_
            rintro _ G37 ⟨rfl, iG37, jG37, eG37, fy36⟩
            replace eG37 := eG37 _ rfl
            have kG37 : pj_kpt kc_233 G0 G37 := pj_kpt_t hK (pj_kpt_s jG37 rfl)
            have q38 : (pj_fi G37 171 3).toInt = (pj_fi G 171 3).toInt := by rw [jG37.1 (171, 3) (by decide)]
            have q39 : (pj_fi G37 171 4).toInt = (pj_fi G 171 4).toInt := by rw [jG37.1 (171, 4) (by decide)]
            obtain ⟨y40, hy40⟩ : ∃ z : Int32, z = pj_fi G37 171 1 := ⟨_, rfl⟩
            have ey40 : (pj_fi G37 171 1).toInt = y40.toInt := by rw [hy40]
            have ry40 : (0 : Int) ≤ y40.toInt ∧ y40.toInt ≤ 24 := by rw [hy40]; exact iG37.2.1 171 1 (0, 24) rfl
            obtain ⟨y41, hy41⟩ : ∃ z : Int32, z = pj_fi G37 171 3 := ⟨_, rfl⟩
            have ey41 : (pj_fi G37 171 3).toInt = y41.toInt := by rw [hy41]
            have ry41 : (0 : Int) ≤ y41.toInt ∧ y41.toInt ≤ 8 := by rw [hy41]; exact iG37.2.1 171 3 (0, 8) rfl
            obtain ⟨y42, hy42⟩ : ∃ z : Int32, z = pj_fi G37 171 4 := ⟨_, rfl⟩
            have ey42 : (pj_fi G37 171 4).toInt = y42.toInt := by rw [hy42]
            have ry42 : (0 : Int) ≤ y42.toInt ∧ y42.toInt ≤ 10 := by rw [hy42]; exact iG37.2.1 171 4 (0, 10) rfl
            show pj_X _ _ G37 167 [(0, .ref 171), (1, .int p), (2, .int bk), (3, .int v3), (4, .int v4), (5, .int v5), (6, .int v6)] [] _
            refine pj_X_of (fun r h => pj_R_to (G37, 168, [(0, .ref 171), (1, .int p), (2, .int bk), (3, .int v3), (4, .int v4), (5, .int v5), (6, .int v6)], [.ref 171], 0, 0) 168 2 (fun _ => rfl) h) ?_
            refine pj_X_of (fun r h => pj_T_gr iG37 rfl rfl rfl h) ?_
            refine pj_X_of (fun r h => pj_R_to (G37, 173, [(0, .ref 171), (1, .int p), (2, .int bk), (3, .int v3), (4, .int v4), (5, .int v5), (6, .int v6)], [.int v6, .ref 173], 0, 0) 173 2 (fun _ => rfl) h) ?_
            refine pj_X_of (fun r h => pj_T_il iG37 rfl rfl (by omega) (by omega) h) ?_
            show pj_X _ _ G37 174 [(0, .ref 171), (1, .int p), (2, .int bk), (3, .int v3), (4, .int v4), (5, .int v5), (6, .int v6)] [.int (pj_ai G37 173 v6.toInt.toNat)] _
            obtain ⟨z43, hz43⟩ : ∃ z : Int32, z = pj_ai G37 173 v6.toInt.toNat := ⟨_, rfl⟩
            refine pj_X_eqi hz43.symm ?_
            have ez43 : (pj_ai G37 173 v6.toInt.toNat).toInt = z43.toInt := by rw [hz43]
            have fz43_0 : (0 : Int) ≤ z43.toInt ∧ z43.toInt ≤ 7 ∧ (z43.toInt ≤ 0 ∨ 0 ≤ z43.toInt) := by rw [hz43]; exact iG37.2.2.1 173 (10, 0, 7, 0, 0) rfl _ (by show _ < 10; omega)
            refine pj_X_of (fun r h => pj_R_to (G37, 175, [(0, .ref 171), (1, .int p), (2, .int bk), (3, .int v3), (4, .int v4), (5, .int v5), (6, .int v6)], [.ref 171, .int z43], 0, 0) 175 2 (fun _ => rfl) h) ?_
            refine pj_X_of (fun r h => pj_T_gr iG37 rfl rfl rfl h) ?_
            refine pj_X_of (fun r h => pj_R_to (G37, 180, [(0, .ref 171), (1, .int p), (2, .int bk), (3, .int v3), (4, .int v4), (5, .int v5), (6, .int v6)], [.int v6, .ref 174, .int z43], 0, 0) 180 2 (fun _ => rfl) h) ?_
            refine pj_X_of (fun r h => pj_T_il iG37 rfl rfl (by omega) (by omega) h) ?_
            show pj_X _ _ G37 181 [(0, .ref 171), (1, .int p), (2, .int bk), (3, .int v3), (4, .int v4), (5, .int v5), (6, .int v6)] [.int (pj_ai G37 174 v6.toInt.toNat), .int z43] _
            obtain ⟨z44, hz44⟩ : ∃ z : Int32, z = pj_ai G37 174 v6.toInt.toNat := ⟨_, rfl⟩
            refine pj_X_eqi hz44.symm ?_
            have ez44 : (pj_ai G37 174 v6.toInt.toNat).toInt = z44.toInt := by rw [hz44]
            have fz44_0 : (0 : Int) ≤ z44.toInt ∧ z44.toInt ≤ 7 ∧ (z44.toInt ≤ 0 ∨ 0 ≤ z44.toInt) := by rw [hz44]; exact iG37.2.2.1 174 (10, 0, 7, 0, 0) rfl _ (by show _ < 10; omega)
            refine pj_X_of (fun r h => pj_R_to (G37, 182, [(0, .ref 171), (1, .int p), (2, .int bk), (3, .int v3), (4, .int v4), (5, .int v5), (6, .int v6)], [.int (z43 + z44)], 0, 0) 182 2 (fun _ => rfl) h) ?_
            obtain ⟨z45, hz45⟩ : ∃ z : Int32, z = z43 + z44 := ⟨_, rfl⟩
            refine pj_X_eqi hz45.symm ?_
            have fz45_0 : z45.toInt = z43.toInt + z44.toInt := by rw [hz45]; exact pj_addI (by have := pj_i32 z43; have := pj_i32 z44; omega) (by have := pj_i32 z43; have := pj_i32 z44; omega)
            refine pj_X_of (fun r h => pj_R_to (G37, 185, [(0, .ref 171), (1, .int p), (2, .int bk), (3, .int v3), (4, .int v4), (5, .int v5), (6, .int v6)], [.int (z45 - v4)], 0, 0) 185 3 (fun _ => rfl) h) ?_
            obtain ⟨z46, hz46⟩ : ∃ z : Int32, z = z45 - v4 := ⟨_, rfl⟩
            refine pj_X_eqi hz46.symm ?_
            have fz46_0 : z46.toInt = z45.toInt - v4.toInt := by rw [hz46]; exact pj_subI (by have := pj_i32 z45; have := pj_i32 v4; omega) (by have := pj_i32 z45; have := pj_i32 v4; omega)
            refine pj_X_of (fun r h => pj_R_to (G37, 77, [(4, .int z46), (0, .ref 171), (1, .int p), (2, .int bk), (3, .int v3), (5, .int v5), (6, .int v6)], [], 0, 0) 77 3 (fun _ => rfl) h) ?_
            have q47 : (pj_fi G37 171 1).toInt = y40.toInt := by rw [show pj_fi G37 171 1 = y40 from hy40.symm]
            have q48 : (pj_fi G37 171 3).toInt = y41.toInt := by rw [show pj_fi G37 171 3 = y41 from hy41.symm]
            have q49 : (pj_fi G37 171 4).toInt = y42.toInt := by rw [show pj_fi G37 171 4 = y42 from hy42.symm]
            have k50 : (pj_ai G 173 v6.toInt.toNat).toInt = z43.toInt := by rw [hz43, jG37.2.2 173 (by decide)]
            have k51 : (pj_ai G 174 v6.toInt.toNat).toInt = z44.toInt := by rw [hz44, jG37.2.2 174 (by decide)]
            have hzb : (pj_ai G37 190 z46.toInt.toNat).toInt = (pj_ai G 190 z27.toInt.toNat).toInt := by rw [jG37.2.2 190 (by decide), show z46.toInt.toNat = z27.toInt.toNat by omega]
            exact pj_X_sub [(0, .ref 171), (1, .int p), (2, .int bk), (3, .int v3), (4, .int z46), (5, .int v5)] (show List.Nodup [0, 1, 2, 3, 4, 5] by decide) ⟨rfl, rfl, rfl, rfl, rfl, rfl, trivial⟩ (ih.1 G37 iG37 kG37 v3 z46 v5 (pj_i32 _) ⟨by omega, by omega⟩ (pj_i32 _) (pj_far_k (fun j => by rw [jG37.2.2 190 (by decide)]) (fun j => by rw [jG37.2.2 173 (by decide)]) (fun j => by rw [jG37.2.2 174 (by decide)]) (by rw [jG37.1 (171, 4) (by decide)]) (by rw [jG37.1 (171, 3) (by decide)]) x0_) (by omega) (by omega) (by omega))
          | false =>
            have ub31 := pj_u_eqF b31
            refine pj_X_of (fun r h => pj_R_icF rfl b31 h) ?_
            refine pj_X_of (fun r h => pj_R_to (G, 157, [(6, .int (v6 + Int32.ofInt 1)), (0, .ref 171), (1, .int p), (2, .int bk), (3, .int v3), (4, .int v4), (5, .int v5)], [], 0, 0) 157 2 (fun _ => rfl) h) ?_
            obtain ⟨z52, hz52⟩ : ∃ z : Int32, z = v6 + Int32.ofInt 1 := ⟨_, rfl⟩
            rw [← hz52]
            have fz52_0 : z52.toInt = v6.toInt + (Int32.ofInt 1).toInt := by rw [hz52]; exact pj_addI (by have := pj_i32 v6; have := pj_i32 (Int32.ofInt 1); omega) (by have := pj_i32 v6; have := pj_i32 (Int32.ofInt 1); omega)
            refine pj_X_of (fun r h => pj_R_to (G, 86, [(6, .int z52), (0, .ref 171), (1, .int p), (2, .int bk), (3, .int v3), (4, .int v4), (5, .int v5)], [], 0, 0) 86 2 (fun _ => rfl) h) ?_
            have q53 : (pj_fi G 171 1).toInt = y11.toInt := by rw [show pj_fi G 171 1 = y11 from hy11.symm]
            have q54 : (pj_fi G 171 3).toInt = y12.toInt := by rw [show pj_fi G 171 3 = y12 from hy12.symm]
            have q55 : (pj_fi G 171 4).toInt = y13.toInt := by rw [show pj_fi G 171 4 = y13 from hy13.symm]
            exact pj_X_sub [(0, .ref 171), (1, .int p), (2, .int bk), (3, .int v3), (4, .int v4), (5, .int v5), (6, .int z52)] (show List.Nodup [0, 1, 2, 3, 4, 5, 6] by decide) ⟨rfl, rfl, rfl, rfl, rfl, rfl, rfl, trivial⟩ (ih.2 G hI hK v3 v4 v5 z52 (pj_i32 _) ⟨by omega, by omega⟩ (pj_i32 _) ⟨by omega, by omega⟩ x0_ (by rw [show z52.toInt = v6.toInt + 1 by omega]; exact pj_nx_s x1_ (fun c hc hb u hu hd hf => by have ec : c = v6 := (Int32.toInt_inj.mp hc); subst ec; first | exact absurd hb (ey17.2 (by omega)) | omega | (have eu : u = z27.toInt.toNat := (by omega); subst eu; omega))) (by omega) (by omega) (by omega))
        | false =>
          have ub24 := pj_u_eqF b24
          refine pj_X_of (fun r h => pj_R_icF rfl b24 h) ?_
          refine pj_X_of (fun r h => pj_R_to (G, 108, [(0, .ref 171), (1, .int p), (2, .int bk), (3, .int v3), (4, .int v4), (5, .int v5), (6, .int v6)], [.ref 171], 0, 0) 108 2 (fun _ => rfl) h) ?_
          refine pj_X_of (fun r h => pj_T_gr hI rfl rfl rfl h) ?_
          refine pj_X_of (fun r h => pj_R_to (G, 113, [(0, .ref 171), (1, .int p), (2, .int bk), (3, .int v3), (4, .int v4), (5, .int v5), (6, .int v6)], [.int v6, .ref 174], 0, 0) 113 2 (fun _ => rfl) h) ?_
          refine pj_X_of (fun r h => pj_T_il hI rfl rfl (by omega) (by omega) h) ?_
          show pj_X _ _ G 114 [(0, .ref 171), (1, .int p), (2, .int bk), (3, .int v3), (4, .int v4), (5, .int v5), (6, .int v6)] [.int (pj_ai G 174 v6.toInt.toNat)] _
          obtain ⟨z56, hz56⟩ : ∃ z : Int32, z = pj_ai G 174 v6.toInt.toNat := ⟨_, rfl⟩
          refine pj_X_eqi hz56.symm ?_
          have ez56 : (pj_ai G 174 v6.toInt.toNat).toInt = z56.toInt := by rw [hz56]
          have fz56_0 : (0 : Int) ≤ z56.toInt ∧ z56.toInt ≤ 7 ∧ (z56.toInt ≤ 0 ∨ 0 ≤ z56.toInt) := by rw [hz56]; exact hI.2.2.1 174 (10, 0, 7, 0, 0) rfl _ (by show _ < 10; omega)
          refine pj_X_of (fun r h => pj_R_to (G, 116, [(0, .ref 171), (1, .int p), (2, .int bk), (3, .int v3), (4, .int v4), (5, .int v5), (6, .int v6)], [.int v4, .int z56], 0, 0) 116 2 (fun _ => rfl) h) ?_
          cases b57 : pj_c1 .ne z56 v4 with
          | true =>
            have ub57 := pj_u_neT b57
            refine pj_X_of (fun r h => pj_R_icT 154 rfl rfl b57 h) ?_
            refine pj_X_of (fun r h => pj_R_to (G, 157, [(6, .int (v6 + Int32.ofInt 1)), (0, .ref 171), (1, .int p), (2, .int bk), (3, .int v3), (4, .int v4), (5, .int v5)], [], 0, 0) 157 2 (fun _ => rfl) h) ?_
            obtain ⟨z58, hz58⟩ : ∃ z : Int32, z = v6 + Int32.ofInt 1 := ⟨_, rfl⟩
            rw [← hz58]
            have fz58_0 : z58.toInt = v6.toInt + (Int32.ofInt 1).toInt := by rw [hz58]; exact pj_addI (by have := pj_i32 v6; have := pj_i32 (Int32.ofInt 1); omega) (by have := pj_i32 v6; have := pj_i32 (Int32.ofInt 1); omega)
            refine pj_X_of (fun r h => pj_R_to (G, 86, [(6, .int z58), (0, .ref 171), (1, .int p), (2, .int bk), (3, .int v3), (4, .int v4), (5, .int v5)], [], 0, 0) 86 2 (fun _ => rfl) h) ?_
            have q59 : (pj_fi G 171 1).toInt = y11.toInt := by rw [show pj_fi G 171 1 = y11 from hy11.symm]
            have q60 : (pj_fi G 171 3).toInt = y12.toInt := by rw [show pj_fi G 171 3 = y12 from hy12.symm]
            have q61 : (pj_fi G 171 4).toInt = y13.toInt := by rw [show pj_fi G 171 4 = y13 from hy13.symm]
            exact pj_X_sub [(0, .ref 171), (1, .int p), (2, .int bk), (3, .int v3), (4, .int v4), (5, .int v5), (6, .int z58)] (show List.Nodup [0, 1, 2, 3, 4, 5, 6] by decide) ⟨rfl, rfl, rfl, rfl, rfl, rfl, rfl, trivial⟩ (ih.2 G hI hK v3 v4 v5 z58 (pj_i32 _) ⟨by omega, by omega⟩ (pj_i32 _) ⟨by omega, by omega⟩ x0_ (by rw [show z58.toInt = v6.toInt + 1 by omega]; exact pj_nx_s x1_ (fun c hc hb u hu hd hf => by have ec : c = v6 := (Int32.toInt_inj.mp hc); subst ec; first | exact absurd hb (ey17.2 (by omega)) | omega)) (by omega) (by omega) (by omega))
          | false =>
            have ub57 := pj_u_neF b57
            refine pj_X_of (fun r h => pj_R_icF rfl b57 h) ?_
            refine pj_X_of (fun r h => pj_R_to (G, 120, [(0, .ref 171), (1, .int p), (2, .int bk), (3, .int v3), (4, .int v4), (5, .int v5), (6, .int v6)], [.ref 171], 0, 0) 120 2 (fun _ => rfl) h) ?_
            refine pj_X_of (fun r h => pj_T_gr hI rfl rfl rfl h) ?_
            refine pj_X_of (fun r h => pj_R_to (G, 124, [(0, .ref 171), (1, .int p), (2, .int bk), (3, .int v3), (4, .int v4), (5, .int v5), (6, .int v6)], [.ref 171, .ref 190], 0, 0) 124 2 (fun _ => rfl) h) ?_
            refine pj_X_of (fun r h => pj_T_gr hI rfl rfl rfl h) ?_
            refine pj_X_of (fun r h => pj_R_to (G, 129, [(0, .ref 171), (1, .int p), (2, .int bk), (3, .int v3), (4, .int v4), (5, .int v5), (6, .int v6)], [.int v6, .ref 173, .ref 190], 0, 0) 129 2 (fun _ => rfl) h) ?_
            refine pj_X_of (fun r h => pj_T_il hI rfl rfl (by omega) (by omega) h) ?_
            show pj_X _ _ G 130 [(0, .ref 171), (1, .int p), (2, .int bk), (3, .int v3), (4, .int v4), (5, .int v5), (6, .int v6)] [.int (pj_ai G 173 v6.toInt.toNat), .ref 190] _
            refine pj_X_eqi hz23.symm ?_
            refine pj_X_of (fun r h => pj_R_to (G, 131, [(0, .ref 171), (1, .int p), (2, .int bk), (3, .int v3), (4, .int v4), (5, .int v5), (6, .int v6)], [.ref 171, .int z23, .ref 190], 0, 0) 131 2 (fun _ => rfl) h) ?_
            refine pj_X_of (fun r h => pj_T_gr hI rfl rfl rfl h) ?_
            refine pj_X_of (fun r h => pj_R_to (G, 136, [(0, .ref 171), (1, .int p), (2, .int bk), (3, .int v3), (4, .int v4), (5, .int v5), (6, .int v6)], [.int v6, .ref 174, .int z23, .ref 190], 0, 0) 136 2 (fun _ => rfl) h) ?_
            refine pj_X_of (fun r h => pj_T_il hI rfl rfl (by omega) (by omega) h) ?_
            show pj_X _ _ G 137 [(0, .ref 171), (1, .int p), (2, .int bk), (3, .int v3), (4, .int v4), (5, .int v5), (6, .int v6)] [.int (pj_ai G 174 v6.toInt.toNat), .int z23, .ref 190] _
            refine pj_X_eqi hz56.symm ?_
            refine pj_X_of (fun r h => pj_R_to (G, 138, [(0, .ref 171), (1, .int p), (2, .int bk), (3, .int v3), (4, .int v4), (5, .int v5), (6, .int v6)], [.int (z23 + z56), .ref 190], 0, 0) 138 2 (fun _ => rfl) h) ?_
            obtain ⟨z62, hz62⟩ : ∃ z : Int32, z = z23 + z56 := ⟨_, rfl⟩
            refine pj_X_eqi hz62.symm ?_
            have fz62_0 : z62.toInt = z23.toInt + z56.toInt := by rw [hz62]; exact pj_addI (by have := pj_i32 z23; have := pj_i32 z56; omega) (by have := pj_i32 z23; have := pj_i32 z56; omega)
            refine pj_X_of (fun r h => pj_R_to (G, 141, [(0, .ref 171), (1, .int p), (2, .int bk), (3, .int v3), (4, .int v4), (5, .int v5), (6, .int v6)], [.int (z62 - v4), .ref 190], 0, 0) 141 3 (fun _ => rfl) h) ?_
            obtain ⟨z63, hz63⟩ : ∃ z : Int32, z = z62 - v4 := ⟨_, rfl⟩
            refine pj_X_eqi hz63.symm ?_
            have fz63_0 : z63.toInt = z62.toInt - v4.toInt := by rw [hz63]; exact pj_subI (by have := pj_i32 z62; have := pj_i32 v4; omega) (by have := pj_i32 z62; have := pj_i32 v4; omega)
            refine pj_X_of (fun r h => pj_T_il hI rfl rfl (by omega) (by omega) h) ?_
            show pj_X _ _ G 142 [(0, .ref 171), (1, .int p), (2, .int bk), (3, .int v3), (4, .int v4), (5, .int v5), (6, .int v6)] [.int (pj_ai G 190 z63.toInt.toNat)] _
            obtain ⟨z64, hz64⟩ : ∃ z : Int32, z = pj_ai G 190 z63.toInt.toNat := ⟨_, rfl⟩
            refine pj_X_eqi hz64.symm ?_
            have ez64 : (pj_ai G 190 z63.toInt.toNat).toInt = z64.toInt := by rw [hz64]
            have fz64_0 : (0 : Int) ≤ z64.toInt ∧ z64.toInt ≤ 1000 ∧ (z64.toInt ≤ 0 ∨ 0 ≤ z64.toInt) := by rw [hz64]; exact hI.2.2.1 190 (8, 0, 1000, 0, 0) rfl _ (by show _ < 8; omega)
            refine pj_X_of (fun r h => pj_R_to (G, 143, [(0, .ref 171), (1, .int p), (2, .int bk), (3, .int v3), (4, .int v4), (5, .int v5), (6, .int v6)], [.ref 171, .int z64], 0, 0) 143 2 (fun _ => rfl) h) ?_
            refine pj_X_of (fun r h => pj_T_gr hI rfl rfl rfl h) ?_
            refine pj_X_of (fun r h => pj_R_to (G, 148, [(0, .ref 171), (1, .int p), (2, .int bk), (3, .int v3), (4, .int v4), (5, .int v5), (6, .int v6)], [.int v4, .ref 190, .int z64], 0, 0) 148 2 (fun _ => rfl) h) ?_
            refine pj_X_of (fun r h => pj_T_il hI rfl rfl (by omega) (by omega) h) ?_
            show pj_X _ _ G 149 [(0, .ref 171), (1, .int p), (2, .int bk), (3, .int v3), (4, .int v4), (5, .int v5), (6, .int v6)] [.int (pj_ai G 190 v4.toInt.toNat), .int z64] _
            obtain ⟨z65, hz65⟩ : ∃ z : Int32, z = pj_ai G 190 v4.toInt.toNat := ⟨_, rfl⟩
            refine pj_X_eqi hz65.symm ?_
            have ez65 : (pj_ai G 190 v4.toInt.toNat).toInt = z65.toInt := by rw [hz65]
            have fz65_0 : (0 : Int) ≤ z65.toInt ∧ z65.toInt ≤ 1000 ∧ (z65.toInt ≤ 0 ∨ 0 ≤ z65.toInt) := by rw [hz65]; exact hI.2.2.1 190 (8, 0, 1000, 0, 0) rfl _ (by show _ < 8; omega)
            refine pj_X_of (fun r h => pj_R_to (G, 151, [(0, .ref 171), (1, .int p), (2, .int bk), (3, .int v3), (4, .int v4), (5, .int v5), (6, .int v6)], [.int (z65 - (Int32.ofInt 1)), .int z64], 0, 0) 151 3 (fun _ => rfl) h) ?_
            obtain ⟨z66, hz66⟩ : ∃ z : Int32, z = z65 - (Int32.ofInt 1) := ⟨_, rfl⟩
            refine pj_X_eqi hz66.symm ?_
            have fz66_0 : z66.toInt = z65.toInt - (Int32.ofInt 1).toInt := by rw [hz66]; exact pj_subI (by have := pj_i32 z65; have := pj_i32 (Int32.ofInt 1); omega) (by have := pj_i32 z65; have := pj_i32 (Int32.ofInt 1); omega)
            cases b67 : pj_c1 .eq z64 z66 with
            | true =>
              have ub67 := pj_u_eqT b67
              refine pj_X_of (fun r h => pj_R_icT 160 rfl rfl b67 h) ?_
              refine pj_X_of (fun r h => pj_R_to (G, 164, [(0, .ref 171), (1, .int p), (2, .int bk), (3, .int v3), (4, .int v4), (5, .int v5), (6, .int v6)], [.long v6.toInt64, .ref 171], 0, 0) 164 4 (fun _ => rfl) h) ?_
              have q68 : (pj_fi G 171 1).toInt = y11.toInt := by rw [show pj_fi G 171 1 = y11 from hy11.symm]
              have q69 : (pj_fi G 171 3).toInt = y12.toInt := by rw [show pj_fi G 171 3 = y12 from hy12.symm]
              have q70 : (pj_fi G 171 4).toInt = y13.toInt := by rw [show pj_fi G 171 4 = y13 from hy13.symm]
              have lc71 : (v6.toInt64).toInt = v6.toInt := Int32.toInt_toInt64 _
              refine pj_X_ca (vs := [.ref 171, .long v6.toInt64]) rfl (fun _ => rfl) ⟨Nat.le_of_ble_eq_true rfl, Nat.le_of_ble_eq_true rfl, pj_T_rcv hI rfl⟩ ⟨rfl, rfl⟩ (pj_Y_up (by decide) (ct_174fx G hI v6.toInt64 (by omega))) ?_
              rintro _ G73 ⟨rfl, iG73, jG73, eG73, fy72⟩
              replace eG73 := eG73 _ rfl
              have kG73 : pj_kpt kc_233 G0 G73 := pj_kpt_t hK (pj_kpt_s jG73 rfl)
              have q74 : (pj_fi G73 171 3).toInt = (pj_fi G 171 3).toInt := by rw [jG73.1 (171, 3) (by decide)]
              have q75 : (pj_fi G73 171 4).toInt = (pj_fi G 171 4).toInt := by rw [jG73.1 (171, 4) (by decide)]
              obtain ⟨y76, hy76⟩ : ∃ z : Int32, z = pj_fi G73 171 1 := ⟨_, rfl⟩
              have ey76 : (pj_fi G73 171 1).toInt = y76.toInt := by rw [hy76]
              have ry76 : (0 : Int) ≤ y76.toInt ∧ y76.toInt ≤ 24 := by rw [hy76]; exact iG73.2.1 171 1 (0, 24) rfl
              obtain ⟨y77, hy77⟩ : ∃ z : Int32, z = pj_fi G73 171 3 := ⟨_, rfl⟩
              have ey77 : (pj_fi G73 171 3).toInt = y77.toInt := by rw [hy77]
              have ry77 : (0 : Int) ≤ y77.toInt ∧ y77.toInt ≤ 8 := by rw [hy77]; exact iG73.2.1 171 3 (0, 8) rfl
              obtain ⟨y78, hy78⟩ : ∃ z : Int32, z = pj_fi G73 171 4 := ⟨_, rfl⟩
              have ey78 : (pj_fi G73 171 4).toInt = y78.toInt := by rw [hy78]
              have ry78 : (0 : Int) ≤ y78.toInt ∧ y78.toInt ≤ 10 := by rw [hy78]; exact iG73.2.1 171 4 (0, 10) rfl
              show pj_X _ _ G73 167 [(0, .ref 171), (1, .int p), (2, .int bk), (3, .int v3), (4, .int v4), (5, .int v5), (6, .int v6)] [] _
              refine pj_X_of (fun r h => pj_R_to (G73, 168, [(0, .ref 171), (1, .int p), (2, .int bk), (3, .int v3), (4, .int v4), (5, .int v5), (6, .int v6)], [.ref 171], 0, 0) 168 2 (fun _ => rfl) h) ?_
              refine pj_X_of (fun r h => pj_T_gr iG73 rfl rfl rfl h) ?_
              refine pj_X_of (fun r h => pj_R_to (G73, 173, [(0, .ref 171), (1, .int p), (2, .int bk), (3, .int v3), (4, .int v4), (5, .int v5), (6, .int v6)], [.int v6, .ref 173], 0, 0) 173 2 (fun _ => rfl) h) ?_
              refine pj_X_of (fun r h => pj_T_il iG73 rfl rfl (by omega) (by omega) h) ?_
              show pj_X _ _ G73 174 [(0, .ref 171), (1, .int p), (2, .int bk), (3, .int v3), (4, .int v4), (5, .int v5), (6, .int v6)] [.int (pj_ai G73 173 v6.toInt.toNat)] _
              obtain ⟨z79, hz79⟩ : ∃ z : Int32, z = pj_ai G73 173 v6.toInt.toNat := ⟨_, rfl⟩
              refine pj_X_eqi hz79.symm ?_
              have ez79 : (pj_ai G73 173 v6.toInt.toNat).toInt = z79.toInt := by rw [hz79]
              have fz79_0 : (0 : Int) ≤ z79.toInt ∧ z79.toInt ≤ 7 ∧ (z79.toInt ≤ 0 ∨ 0 ≤ z79.toInt) := by rw [hz79]; exact iG73.2.2.1 173 (10, 0, 7, 0, 0) rfl _ (by show _ < 10; omega)
              refine pj_X_of (fun r h => pj_R_to (G73, 175, [(0, .ref 171), (1, .int p), (2, .int bk), (3, .int v3), (4, .int v4), (5, .int v5), (6, .int v6)], [.ref 171, .int z79], 0, 0) 175 2 (fun _ => rfl) h) ?_
              refine pj_X_of (fun r h => pj_T_gr iG73 rfl rfl rfl h) ?_
              refine pj_X_of (fun r h => pj_R_to (G73, 180, [(0, .ref 171), (1, .int p), (2, .int bk), (3, .int v3), (4, .int v4), (5, .int v5), (6, .int v6)], [.int v6, .ref 174, .int z79], 0, 0) 180 2 (fun _ => rfl) h) ?_
              refine pj_X_of (fun r h => pj_T_il iG73 rfl rfl (by omega) (by omega) h) ?_
              show pj_X _ _ G73 181 [(0, .ref 171), (1, .int p), (2, .int bk), (3, .int v3), (4, .int v4), (5, .int v5), (6, .int v6)] [.int (pj_ai G73 174 v6.toInt.toNat), .int z79] _
              obtain ⟨z80, hz80⟩ : ∃ z : Int32, z = pj_ai G73 174 v6.toInt.toNat := ⟨_, rfl⟩
              refine pj_X_eqi hz80.symm ?_
              have ez80 : (pj_ai G73 174 v6.toInt.toNat).toInt = z80.toInt := by rw [hz80]
              have fz80_0 : (0 : Int) ≤ z80.toInt ∧ z80.toInt ≤ 7 ∧ (z80.toInt ≤ 0 ∨ 0 ≤ z80.toInt) := by rw [hz80]; exact iG73.2.2.1 174 (10, 0, 7, 0, 0) rfl _ (by show _ < 10; omega)
              refine pj_X_of (fun r h => pj_R_to (G73, 182, [(0, .ref 171), (1, .int p), (2, .int bk), (3, .int v3), (4, .int v4), (5, .int v5), (6, .int v6)], [.int (z79 + z80)], 0, 0) 182 2 (fun _ => rfl) h) ?_
              obtain ⟨z81, hz81⟩ : ∃ z : Int32, z = z79 + z80 := ⟨_, rfl⟩
              refine pj_X_eqi hz81.symm ?_
              have fz81_0 : z81.toInt = z79.toInt + z80.toInt := by rw [hz81]; exact pj_addI (by have := pj_i32 z79; have := pj_i32 z80; omega) (by have := pj_i32 z79; have := pj_i32 z80; omega)
              refine pj_X_of (fun r h => pj_R_to (G73, 185, [(0, .ref 171), (1, .int p), (2, .int bk), (3, .int v3), (4, .int v4), (5, .int v5), (6, .int v6)], [.int (z81 - v4)], 0, 0) 185 3 (fun _ => rfl) h) ?_
              obtain ⟨z82, hz82⟩ : ∃ z : Int32, z = z81 - v4 := ⟨_, rfl⟩
              refine pj_X_eqi hz82.symm ?_
              have fz82_0 : z82.toInt = z81.toInt - v4.toInt := by rw [hz82]; exact pj_subI (by have := pj_i32 z81; have := pj_i32 v4; omega) (by have := pj_i32 z81; have := pj_i32 v4; omega)
              refine pj_X_of (fun r h => pj_R_to (G73, 77, [(4, .int z82), (0, .ref 171), (1, .int p), (2, .int bk), (3, .int v3), (5, .int v5), (6, .int v6)], [], 0, 0) 77 3 (fun _ => rfl) h) ?_
              have q83 : (pj_fi G73 171 1).toInt = y76.toInt := by rw [show pj_fi G73 171 1 = y76 from hy76.symm]
              have q84 : (pj_fi G73 171 3).toInt = y77.toInt := by rw [show pj_fi G73 171 3 = y77 from hy77.symm]
              have q85 : (pj_fi G73 171 4).toInt = y78.toInt := by rw [show pj_fi G73 171 4 = y78 from hy78.symm]
              have k86 : (pj_ai G 173 v6.toInt.toNat).toInt = z79.toInt := by rw [hz79, jG73.2.2 173 (by decide)]
              have k87 : (pj_ai G 174 v6.toInt.toNat).toInt = z80.toInt := by rw [hz80, jG73.2.2 174 (by decide)]
              have hzb : (pj_ai G73 190 z82.toInt.toNat).toInt = (pj_ai G 190 z63.toInt.toNat).toInt := by rw [jG73.2.2 190 (by decide), show z82.toInt.toNat = z63.toInt.toNat by omega]
              exact pj_X_sub [(0, .ref 171), (1, .int p), (2, .int bk), (3, .int v3), (4, .int z82), (5, .int v5)] (show List.Nodup [0, 1, 2, 3, 4, 5] by decide) ⟨rfl, rfl, rfl, rfl, rfl, rfl, trivial⟩ (ih.1 G73 iG73 kG73 v3 z82 v5 (pj_i32 _) ⟨by omega, by omega⟩ (pj_i32 _) (pj_far_k (fun j => by rw [jG73.2.2 190 (by decide)]) (fun j => by rw [jG73.2.2 173 (by decide)]) (fun j => by rw [jG73.2.2 174 (by decide)]) (by rw [jG73.1 (171, 4) (by decide)]) (by rw [jG73.1 (171, 3) (by decide)]) x0_) (by omega) (by omega) (by omega))
            | false =>
              have ub67 := pj_u_eqF b67
              refine pj_X_of (fun r h => pj_R_icF rfl b67 h) ?_
              refine pj_X_of (fun r h => pj_R_to (G, 157, [(6, .int (v6 + Int32.ofInt 1)), (0, .ref 171), (1, .int p), (2, .int bk), (3, .int v3), (4, .int v4), (5, .int v5)], [], 0, 0) 157 2 (fun _ => rfl) h) ?_
              obtain ⟨z88, hz88⟩ : ∃ z : Int32, z = v6 + Int32.ofInt 1 := ⟨_, rfl⟩
              rw [← hz88]
              have fz88_0 : z88.toInt = v6.toInt + (Int32.ofInt 1).toInt := by rw [hz88]; exact pj_addI (by have := pj_i32 v6; have := pj_i32 (Int32.ofInt 1); omega) (by have := pj_i32 v6; have := pj_i32 (Int32.ofInt 1); omega)
              refine pj_X_of (fun r h => pj_R_to (G, 86, [(6, .int z88), (0, .ref 171), (1, .int p), (2, .int bk), (3, .int v3), (4, .int v4), (5, .int v5)], [], 0, 0) 86 2 (fun _ => rfl) h) ?_
              have q89 : (pj_fi G 171 1).toInt = y11.toInt := by rw [show pj_fi G 171 1 = y11 from hy11.symm]
              have q90 : (pj_fi G 171 3).toInt = y12.toInt := by rw [show pj_fi G 171 3 = y12 from hy12.symm]
              have q91 : (pj_fi G 171 4).toInt = y13.toInt := by rw [show pj_fi G 171 4 = y13 from hy13.symm]
              exact pj_X_sub [(0, .ref 171), (1, .int p), (2, .int bk), (3, .int v3), (4, .int v4), (5, .int v5), (6, .int z88)] (show List.Nodup [0, 1, 2, 3, 4, 5, 6] by decide) ⟨rfl, rfl, rfl, rfl, rfl, rfl, rfl, trivial⟩ (ih.2 G hI hK v3 v4 v5 z88 (pj_i32 _) ⟨by omega, by omega⟩ (pj_i32 _) ⟨by omega, by omega⟩ x0_ (by rw [show z88.toInt = v6.toInt + 1 by omega]; exact pj_nx_s x1_ (fun c hc hb u hu hd hf => by have ec : c = v6 := (Int32.toInt_inj.mp hc); subst ec; first | exact absurd hb (ey17.2 (by omega)) | omega | (have eu : u = z63.toInt.toNat := (by omega); subst eu; omega))) (by omega) (by omega) (by omega))
theorem ct_233 (G0 : pj_G) (hI : pj_Inv G0) (p : Int32) (bk : Int32) (p0_ : pj_RI G0) : pj_Y 6 233 [.ref 171, .int p, .int bk] G0 (fun v G' => ∃ y : Int32, v = some (.int y) ∧ pj_Inv G' ∧ pj_kpt kc_233 G0 G' ∧ ((-2147483648 : Int) ≤ y.toInt ∧ y.toInt ≤ 2147483647)) := by
  have c0_ : ((Int16.ofInt 1000).toInt32).toInt = 1000 := by decide
  have c1_ : ((Int8.ofInt (-2)).toInt32).toInt = -2 := by decide
  have c2_ : ((Int8.ofInt 24).toInt32).toInt = 24 := by decide
  have c3_ : (Int32.ofInt (-1)).toInt = -1 := by decide
  have c4_ : (Int32.ofInt 0).toInt = 0 := by decide
  have c5_ : (Int32.ofInt 1).toInt = 1 := by decide
  refine pj_Y_X (M := pj_m233) rfl rfl (Nat.le_of_ble_eq_true rfl) ?_
  have hK : pj_kpt kc_233 G0 G0 := pj_kpt_r _ _
  show pj_X _ _ G0 0 [(0, .ref 171), (1, .int p), (2, .int bk)] [] _
  obtain ⟨y92, hy92⟩ : ∃ z : Int32, z = pj_fi G0 171 1 := ⟨_, rfl⟩
  have ey92 : (pj_fi G0 171 1).toInt = y92.toInt := by rw [hy92]
  have ry92 : (0 : Int) ≤ y92.toInt ∧ y92.toInt ≤ 24 := by rw [hy92]; exact hI.2.1 171 1 (0, 24) rfl
  obtain ⟨y93, hy93⟩ : ∃ z : Int32, z = pj_fi G0 171 3 := ⟨_, rfl⟩
  have ey93 : (pj_fi G0 171 3).toInt = y93.toInt := by rw [hy93]
  have ry93 : (0 : Int) ≤ y93.toInt ∧ y93.toInt ≤ 8 := by rw [hy93]; exact hI.2.1 171 3 (0, 8) rfl
  obtain ⟨y94, hy94⟩ : ∃ z : Int32, z = pj_fi G0 171 4 := ⟨_, rfl⟩
  have ey94 : (pj_fi G0 171 4).toInt = y94.toInt := by rw [hy94]
  have ry94 : (0 : Int) ≤ y94.toInt ∧ y94.toInt ≤ 10 := by rw [hy94]; exact hI.2.1 171 4 (0, 10) rfl
  refine pj_X_of (fun r h => pj_R_to (G0, 2, [(0, .ref 171), (1, .int p), (2, .int bk)], [.int (Int32.ofInt 0), .ref 171], 0, 0) 2 3 (fun _ => rfl) h) ?_
  refine pj_X_of (fun r h => pj_T_pf hI rfl rfl rfl h) ?_
  show pj_X _ _ (pj_wv G0 171 0 (.int (Int32.ofInt 0))) 5 [(0, .ref 171), (1, .int p), (2, .int bk)] [] _
  obtain ⟨G95, hG95⟩ : ∃ H, H = pj_wv G0 171 0 (.int (Int32.ofInt 0)) := ⟨_, rfl⟩
  have iG95 : pj_Inv G95 := by rw [hG95]; exact pj_Inv_wi hI (ci := 12) rfl (fun q hq => by cases hq)
  have kG95 : pj_kpt kc_233 G0 G95 := by rw [hG95]; exact pj_kpt_v hK rfl
  rw [← hG95]
  refine pj_X_of (fun r h => pj_R_to (G95, 7, [(0, .ref 171), (1, .int p), (2, .int bk)], [.int p, .ref 171], 0, 0) 7 3 (fun _ => rfl) h) ?_
  have q96 : (pj_fi G95 171 1).toInt = y92.toInt := by rw [show pj_fi G95 171 1 = y92 from by rw [hG95, pj_fi_wv_ne _ _ _ _ _ _ (by decide)]; exact hy92.symm]
  have q97 : (pj_fi G95 171 3).toInt = y93.toInt := by rw [show pj_fi G95 171 3 = y93 from by rw [hG95, pj_fi_wv_ne _ _ _ _ _ _ (by decide)]; exact hy93.symm]
  have q98 : (pj_fi G95 171 4).toInt = y94.toInt := by rw [show pj_fi G95 171 4 = y94 from by rw [hG95, pj_fi_wv_ne _ _ _ _ _ _ (by decide)]; exact hy94.symm]
  refine pj_X_ca (vs := [.ref 171, .int p]) rfl (fun _ => rfl) ⟨Nat.le_of_ble_eq_true rfl, Nat.le_of_ble_eq_true rfl, pj_T_rcv iG95 rfl⟩ ⟨rfl, rfl⟩ (pj_Y_up (by decide) (ct_178x G95 iG95 p)) ?_
  rintro _ _ ⟨y99, rfl, rfl, ry99, ey99, fy99⟩
  replace ey99 := ey99 _ rfl
  show pj_X _ _ G95 10 [(0, .ref 171), (1, .int p), (2, .int bk)] [.int y99] _
  cases b100 : pj_c1 .eq y99 0 with
  | true =>
    have ub100 := pj_u0_eqT b100
    refine pj_X_of (fun r h => pj_R_ifT 21 rfl rfl b100 h) ?_
    refine pj_X_of (fun r h => pj_R_to (G95, 22, [(0, .ref 171), (1, .int p), (2, .int bk)], [.int (Int32.ofInt (-1))], 0, 0) 22 2 (fun _ => rfl) h) ?_
    have q101 : (pj_fi G95 171 1).toInt = y92.toInt := by rw [show pj_fi G95 171 1 = y92 from by rw [hG95, pj_fi_wv_ne _ _ _ _ _ _ (by decide)]; exact hy92.symm]
    have q102 : (pj_fi G95 171 3).toInt = y93.toInt := by rw [show pj_fi G95 171 3 = y93 from by rw [hG95, pj_fi_wv_ne _ _ _ _ _ _ (by decide)]; exact hy93.symm]
    have q103 : (pj_fi G95 171 4).toInt = y94.toInt := by rw [show pj_fi G95 171 4 = y94 from by rw [hG95, pj_fi_wv_ne _ _ _ _ _ _ (by decide)]; exact hy94.symm]
    exact pj_X_rt rfl rfl ⟨_, rfl, iG95, kG95, pj_i32 _⟩
  | false =>
    have ub100 := pj_u0_eqF b100
    refine pj_X_of (fun r h => pj_R_ifF rfl b100 h) ?_
    refine pj_X_of (fun r h => pj_R_to (G95, 15, [(0, .ref 171), (1, .int p), (2, .int bk)], [.int bk, .ref 171], 0, 0) 15 3 (fun _ => rfl) h) ?_
    have q104 : (pj_fi G95 171 1).toInt = y92.toInt := by rw [show pj_fi G95 171 1 = y92 from by rw [hG95, pj_fi_wv_ne _ _ _ _ _ _ (by decide)]; exact hy92.symm]
    have q105 : (pj_fi G95 171 3).toInt = y93.toInt := by rw [show pj_fi G95 171 3 = y93 from by rw [hG95, pj_fi_wv_ne _ _ _ _ _ _ (by decide)]; exact hy93.symm]
    have q106 : (pj_fi G95 171 4).toInt = y94.toInt := by rw [show pj_fi G95 171 4 = y94 from by rw [hG95, pj_fi_wv_ne _ _ _ _ _ _ (by decide)]; exact hy94.symm]
    refine pj_X_ca (vs := [.ref 171, .int bk]) rfl (fun _ => rfl) ⟨Nat.le_of_ble_eq_true rfl, Nat.le_of_ble_eq_true rfl, pj_T_rcv iG95 rfl⟩ ⟨rfl, rfl⟩ (pj_Y_up (by decide) (ct_175x G95 iG95 bk)) ?_
    rintro _ _ ⟨y107, rfl, rfl, ry107, ey107, fy107⟩
    replace ey107 := ey107 _ rfl
    show pj_X _ _ G95 18 [(0, .ref 171), (1, .int p), (2, .int bk)] [.int y107] _
    cases b108 : pj_c1 .ne y107 0 with
    | true =>
      have ub108 := pj_u0_neT b108
      refine pj_X_of (fun r h => pj_R_ifT 23 rfl rfl b108 h) ?_
      refine pj_X_of (fun r h => pj_R_to (G95, 26, [(0, .ref 171), (1, .int p), (2, .int bk)], [.ref 171, .int (Int32.ofInt 0), .ref 171], 0, 0) 26 4 (fun _ => rfl) h) ?_
      refine pj_X_of (fun r h => pj_T_gr iG95 rfl rfl rfl h) ?_
      refine pj_X_of (fun r h => pj_R_to (G95, 30, [(0, .ref 171), (1, .int p), (2, .int bk)], [.int p, .ref 178, .int (Int32.ofInt 0), .ref 171], 0, 0) 30 2 (fun _ => rfl) h) ?_
      refine pj_X_of (fun r h => pj_T_il iG95 rfl rfl (by omega) (by omega) h) ?_
      show pj_X _ _ G95 31 [(0, .ref 171), (1, .int p), (2, .int bk)] [.int (pj_ai G95 178 p.toInt.toNat), .int (Int32.ofInt 0), .ref 171] _
      obtain ⟨z109, hz109⟩ : ∃ z : Int32, z = pj_ai G95 178 p.toInt.toNat := ⟨_, rfl⟩
      refine pj_X_eqi hz109.symm ?_
      have ez109 : (pj_ai G95 178 p.toInt.toNat).toInt = z109.toInt := by rw [hz109]
      have q110 : (pj_fi G95 171 1).toInt = y92.toInt := by rw [show pj_fi G95 171 1 = y92 from by rw [hG95, pj_fi_wv_ne _ _ _ _ _ _ (by decide)]; exact hy92.symm]
      have q111 : (pj_fi G95 171 3).toInt = y93.toInt := by rw [show pj_fi G95 171 3 = y93 from by rw [hG95, pj_fi_wv_ne _ _ _ _ _ _ (by decide)]; exact hy93.symm]
      have q112 : (pj_fi G95 171 4).toInt = y94.toInt := by rw [show pj_fi G95 171 4 = y94 from by rw [hG95, pj_fi_wv_ne _ _ _ _ _ _ (by decide)]; exact hy94.symm]
      refine pj_X_ca (vs := [.ref 171, .int (Int32.ofInt 0), .int z109]) rfl (fun _ => rfl) ⟨Nat.le_of_ble_eq_true rfl, Nat.le_of_ble_eq_true rfl, pj_T_rcv iG95 rfl⟩ ⟨rfl, rfl⟩ (pj_Y_up (by decide) (ct_206x G95 iG95 (Int32.ofInt 0) z109)) ?_
      rintro _ _ ⟨y113, rfl, rfl, ry113, ey113, fy113⟩
      replace ey113 := ey113 _ rfl
      show pj_X _ _ G95 34 [(0, .ref 171), (1, .int p), (2, .int bk)] [.int y113] _
      refine pj_X_of (fun r h => pj_R_to (G95, 38, [(3, .int y113), (0, .ref 171), (1, .int p), (2, .int bk)], [.int y113, .int bk, .ref 171], 0, 0) 38 5 (fun _ => rfl) h) ?_
      have q114 : (pj_fi G95 171 1).toInt = y92.toInt := by rw [show pj_fi G95 171 1 = y92 from by rw [hG95, pj_fi_wv_ne _ _ _ _ _ _ (by decide)]; exact hy92.symm]
      have q115 : (pj_fi G95 171 3).toInt = y93.toInt := by rw [show pj_fi G95 171 3 = y93 from by rw [hG95, pj_fi_wv_ne _ _ _ _ _ _ (by decide)]; exact hy93.symm]
      have q116 : (pj_fi G95 171 4).toInt = y94.toInt := by rw [show pj_fi G95 171 4 = y94 from by rw [hG95, pj_fi_wv_ne _ _ _ _ _ _ (by decide)]; exact hy94.symm]
      refine pj_X_ca (vs := [.ref 171, .int bk, .int y113]) rfl (fun _ => rfl) ⟨Nat.le_of_ble_eq_true rfl, Nat.le_of_ble_eq_true rfl, pj_T_rcv iG95 rfl⟩ ⟨rfl, rfl⟩ (pj_Y_up (by decide) (ct_232 G95 iG95 bk y113 ⟨by omega, by omega⟩)) ?_
      rintro _ G118 ⟨rfl, iG118, jG118, eG118⟩
      have kG118 : pj_kpt kc_233 G0 G118 := pj_kpt_t kG95 (pj_kpt_s jG118 rfl)
      have q119 : (pj_fi G118 171 1).toInt = (pj_fi G95 171 1).toInt := by rw [jG118.1 (171, 1) (by decide)]
      have q120 : (pj_fi G118 171 3).toInt = (pj_fi G95 171 3).toInt := by rw [jG118.1 (171, 3) (by decide)]
      have q121 : (pj_fi G118 171 4).toInt = (pj_fi G95 171 4).toInt := by rw [jG118.1 (171, 4) (by decide)]
      obtain ⟨y122, hy122⟩ : ∃ z : Int32, z = pj_fi G118 171 1 := ⟨_, rfl⟩
      have ey122 : (pj_fi G118 171 1).toInt = y122.toInt := by rw [hy122]
      have ry122 : (0 : Int) ≤ y122.toInt ∧ y122.toInt ≤ 24 := by rw [hy122]; exact iG118.2.1 171 1 (0, 24) rfl
      obtain ⟨y123, hy123⟩ : ∃ z : Int32, z = pj_fi G118 171 3 := ⟨_, rfl⟩
      have ey123 : (pj_fi G118 171 3).toInt = y123.toInt := by rw [hy123]
      have ry123 : (0 : Int) ≤ y123.toInt ∧ y123.toInt ≤ 8 := by rw [hy123]; exact iG118.2.1 171 3 (0, 8) rfl
      obtain ⟨y124, hy124⟩ : ∃ z : Int32, z = pj_fi G118 171 4 := ⟨_, rfl⟩
      have ey124 : (pj_fi G118 171 4).toInt = y124.toInt := by rw [hy124]
      have ry124 : (0 : Int) ≤ y124.toInt ∧ y124.toInt ≤ 10 := by rw [hy124]; exact iG118.2.1 171 4 (0, 10) rfl
      show pj_X _ _ G118 41 [(3, .int y113), (0, .ref 171), (1, .int p), (2, .int bk)] [] _
      refine pj_X_of (fun r h => pj_R_to (G118, 42, [(3, .int y113), (0, .ref 171), (1, .int p), (2, .int bk)], [.ref 171], 0, 0) 42 2 (fun _ => rfl) h) ?_
      refine pj_X_of (fun r h => pj_T_gr iG118 rfl rfl rfl h) ?_
      refine pj_X_of (fun r h => pj_R_to (G118, 49, [(3, .int y113), (0, .ref 171), (1, .int p), (2, .int bk)], [.int (((Int8.ofInt 24).toInt32) + p), .ref 179], 0, 0) 49 4 (fun _ => rfl) h) ?_
      obtain ⟨z125, hz125⟩ : ∃ z : Int32, z = ((Int8.ofInt 24).toInt32) + p := ⟨_, rfl⟩
      refine pj_X_eqi hz125.symm ?_
      have fz125_0 : z125.toInt = ((Int8.ofInt 24).toInt32).toInt + p.toInt := by rw [hz125]; exact pj_addI (by have := pj_i32 ((Int8.ofInt 24).toInt32); have := pj_i32 p; omega) (by have := pj_i32 ((Int8.ofInt 24).toInt32); have := pj_i32 p; omega)
      refine pj_X_of (fun r h => pj_T_il iG118 rfl rfl (by omega) (by omega) h) ?_
      show pj_X _ _ G118 50 [(3, .int y113), (0, .ref 171), (1, .int p), (2, .int bk)] [.int (pj_ai G118 179 z125.toInt.toNat)] _
      obtain ⟨z126, hz126⟩ : ∃ z : Int32, z = pj_ai G118 179 z125.toInt.toNat := ⟨_, rfl⟩
      refine pj_X_eqi hz126.symm ?_
      have ez126 : (pj_ai G118 179 z125.toInt.toNat).toInt = z126.toInt := by rw [hz126]
      have fz126_0 : 0 ≤ z126.toInt ∧ z126.toInt ≤ 7 := by rw [hz126]; exact (iG118.2.2.2 179 32 rfl _ (by show _ < 32; omega)).2 ⟨by omega, by omega⟩
      refine pj_X_of (fun r h => pj_R_to (G118, 53, [(4, .int z126), (3, .int y113), (0, .ref 171), (1, .int p), (2, .int bk)], [.ref 171], 0, 0) 53 3 (fun _ => rfl) h) ?_
      refine pj_X_of (fun r h => pj_T_gr iG118 rfl rfl rfl h) ?_
      refine pj_X_of (fun r h => pj_R_to (G118, 58, [(4, .int z126), (3, .int y113), (0, .ref 171), (1, .int p), (2, .int bk)], [.int z126, .ref 190], 0, 0) 58 2 (fun _ => rfl) h) ?_
      refine pj_X_of (fun r h => pj_T_il iG118 rfl rfl (by omega) (by omega) h) ?_
      show pj_X _ _ G118 59 [(4, .int z126), (3, .int y113), (0, .ref 171), (1, .int p), (2, .int bk)] [.int (pj_ai G118 190 z126.toInt.toNat)] _
      obtain ⟨z127, hz127⟩ : ∃ z : Int32, z = pj_ai G118 190 z126.toInt.toNat := ⟨_, rfl⟩
      refine pj_X_eqi hz127.symm ?_
      have ez127 : (pj_ai G118 190 z126.toInt.toNat).toInt = z127.toInt := by rw [hz127]
      have fz127_0 : (0 : Int) ≤ z127.toInt ∧ z127.toInt ≤ 1000 ∧ (z127.toInt ≤ 0 ∨ 0 ≤ z127.toInt) := by rw [hz127]; exact iG118.2.2.1 190 (8, 0, 1000, 0, 0) rfl _ (by show _ < 8; omega)
      refine pj_X_of (fun r h => pj_R_to (G118, 66, [(5, .int z127), (4, .int z126), (3, .int y113), (0, .ref 171), (1, .int p), (2, .int bk)], [.int ((Int16.ofInt 1000).toInt32), .int z127], 0, 0) 66 4 (fun _ => rfl) h) ?_
      cases b128 : pj_c1 .lt z127 ((Int16.ofInt 1000).toInt32) with
      | true =>
        have ub128 := pj_u_ltT b128
        refine pj_X_of (fun r h => pj_R_icT 72 rfl rfl b128 h) ?_
        refine pj_X_of (fun r h => pj_R_to (G118, 74, [(5, .int z127), (4, .int z126), (3, .int y113), (0, .ref 171), (1, .int p), (2, .int bk)], [.int (Int32.ofInt 0), .ref 171], 0, 0) 74 3 (fun _ => rfl) h) ?_
        refine pj_X_of (fun r h => pj_T_pf iG118 rfl rfl rfl h) ?_
        show pj_X _ _ (pj_wv G118 171 1 (.int (Int32.ofInt 0))) 77 [(5, .int z127), (4, .int z126), (3, .int y113), (0, .ref 171), (1, .int p), (2, .int bk)] [] _
        obtain ⟨G129, hG129⟩ : ∃ H, H = pj_wv G118 171 1 (.int (Int32.ofInt 0)) := ⟨_, rfl⟩
        have iG129 : pj_Inv G129 := by rw [hG129]; exact pj_Inv_wi iG118 (ci := 12) rfl (fun q hq => by cases hq; exact ⟨by show (0 : Int) ≤ _; omega, by show _ ≤ (24 : Int); omega⟩)
        have kG129 : pj_kpt kc_233 G0 G129 := by rw [hG129]; exact pj_kpt_v kG118 rfl
        rw [← hG129]
        have q130 : (pj_fi G129 171 1).toInt = (Int32.ofInt 0).toInt := by rw [show pj_fi G129 171 1 = Int32.ofInt 0 from by rw [hG129]; exact pj_fi_wi iG118.1 (ci := 12) rfl _]
        have q131 : (pj_fi G129 171 3).toInt = y123.toInt := by rw [show pj_fi G129 171 3 = y123 from by rw [hG129, pj_fi_wv_ne _ _ _ _ _ _ (by decide)]; exact hy123.symm]
        have q132 : (pj_fi G129 171 4).toInt = y124.toInt := by rw [show pj_fi G129 171 4 = y124 from by rw [hG129, pj_fi_wv_ne _ _ _ _ _ _ (by decide)]; exact hy124.symm]
        have hgo := pj_go iG118 (pj_RI_k p0_ kG118 rfl) eG118 (by omega) (by omega) z126 (by omega) (by omega) (by omega)
        have hgo1 := hgo.1
        have hmy : (pj_ai G129 190 z126.toInt.toNat).toInt = (pj_ai G118 190 z126.toInt.toNat).toInt := by rw [hG129, pj_ai_wv]
        exact pj_X_sub [(0, .ref 171), (1, .int p), (2, .int bk), (3, .int y113), (4, .int z126), (5, .int z127)] (show List.Nodup [0, 1, 2, 3, 4, 5] by decide) ⟨rfl, rfl, rfl, rfl, rfl, rfl, trivial⟩ ((lp_ct_233 G0 hI p bk  p0_ 2001).1 G129 iG129 kG129 y113 z126 z127 (pj_i32 _) ⟨by omega, by omega⟩ (pj_i32 _) (pj_far_k (fun j => by rw [hG129, pj_ai_wv]) (fun j => by rw [hG129, pj_ai_wv]) (fun j => by rw [hG129, pj_ai_wv]) (by rw [hG129, pj_fi_wv_ne _ _ _ _ _ _ (by decide)]) (by rw [hG129, pj_fi_wv_ne _ _ _ _ _ _ (by decide)]) eG118) (by omega) (by omega) (by omega))
      | false =>
        have ub128 := pj_u_ltF b128
        refine pj_X_of (fun r h => pj_R_icF rfl b128 h) ?_
        refine pj_X_of (fun r h => pj_R_to (G118, 71, [(5, .int z127), (4, .int z126), (3, .int y113), (0, .ref 171), (1, .int p), (2, .int bk)], [.int ((Int8.ofInt (-2)).toInt32)], 0, 0) 71 2 (fun _ => rfl) h) ?_
        have q133 : (pj_fi G118 171 1).toInt = y122.toInt := by rw [show pj_fi G118 171 1 = y122 from hy122.symm]
        have q134 : (pj_fi G118 171 3).toInt = y123.toInt := by rw [show pj_fi G118 171 3 = y123 from hy123.symm]
        have q135 : (pj_fi G118 171 4).toInt = y124.toInt := by rw [show pj_fi G118 171 4 = y124 from hy124.symm]
        exact pj_X_rt rfl rfl ⟨_, rfl, iG118, kG118, pj_i32 _⟩
    | false =>
      have ub108 := pj_u0_neF b108
      refine pj_X_of (fun r h => pj_R_ifF rfl b108 h) ?_
      refine pj_X_of (fun r h => pj_R_to (G95, 22, [(0, .ref 171), (1, .int p), (2, .int bk)], [.int (Int32.ofInt (-1))], 0, 0) 22 2 (fun _ => rfl) h) ?_
      have q136 : (pj_fi G95 171 1).toInt = y92.toInt := by rw [show pj_fi G95 171 1 = y92 from by rw [hG95, pj_fi_wv_ne _ _ _ _ _ _ (by decide)]; exact hy92.symm]
      have q137 : (pj_fi G95 171 3).toInt = y93.toInt := by rw [show pj_fi G95 171 3 = y93 from by rw [hG95, pj_fi_wv_ne _ _ _ _ _ _ (by decide)]; exact hy93.symm]
      have q138 : (pj_fi G95 171 4).toInt = y94.toInt := by rw [show pj_fi G95 171 4 = y94 from by rw [hG95, pj_fi_wv_ne _ _ _ _ _ _ (by decide)]; exact hy94.symm]
      exact pj_X_rt rfl rfl ⟨_, rfl, iG95, kG95, pj_i32 _⟩
