def pj_vst (c : Int32) (x : Nat) : Option Nat := if c.toInt = 3000 then (if 1 ≤ x then some x else none) else if 2000 ≤ c.toInt then (if 2 ≤ x then some (x - 1) else none) else some (x + 1)
theorem pj_vp_s {f : Nat → Int32} {n i h : Nat} : pj_vp f (n + 1) i h = (pj_vst (f i) h).bind (fun x => pj_vp f n (i + 1) x) := by
  show (if (f i).toInt = 3000 then (if 1 ≤ h then pj_vp f n (i + 1) h else none) else if 2000 ≤ (f i).toInt then (if 2 ≤ h then pj_vp f n (i + 1) (h - 1) else none) else pj_vp f n (i + 1) (h + 1)) = _
  unfold pj_vst
  split
  · split
    · rfl
    · rfl
  · split
    · split
      · rfl
      · rfl
    · rfl
theorem pj_vp_app {f : Nat → Int32} : ∀ (n m i h : Nat), pj_vp f (n + m) i h = (pj_vp f n i h).bind (fun x => pj_vp f m (i + n) x)
  | 0, m, i, h => by
    rw [Nat.zero_add]
    rfl
  | n + 1, m, i, h => by
    rw [show n + 1 + m = (n + m) + 1 by omega, pj_vp_s, pj_vp_s]
    cases pj_vst (f i) h with
    | none => rfl
    | some x =>
      show pj_vp f (n + m) (i + 1) x = (pj_vp f n (i + 1) x).bind _
      rw [pj_vp_app n m (i + 1) x, show i + 1 + n = i + (n + 1) by omega]
theorem pj_vp_cg {f g : Nat → Int32} (n i h : Nat) (e : ∀ j, i ≤ j → j < i + n → f j = g j) : pj_vp f n i h = pj_vp g n i h := by
  induction n generalizing i h with
  | zero => rfl
  | succ n ih =>
    rw [pj_vp_s, pj_vp_s, e i (Nat.le_refl _) (by omega)]
    cases pj_vst (g i) h with
    | none =>
      show (none : Option Nat) = none
      rfl
    | some x =>
      show pj_vp f n (i + 1) x = pj_vp g n (i + 1) x
      exact ih (i + 1) x (fun j h1 h2 => e j (by omega) (by omega))
def pj_qp (G0 G : pj_G) : Prop := (pj_fi G0 171 27).toInt ≤ (pj_fi G 171 27).toInt ∧ ∀ j : Nat, (j : Int) < (pj_fi G0 171 27).toInt → pj_ai G 183 j = pj_ai G0 183 j
def pj_qm (G0 G : pj_G) (m : Nat) : Prop := pj_qp G0 G ∧ ∀ h, pj_vp (fun j => pj_ai G 183 j) ((pj_fi G 171 27).toInt - (pj_fi G0 171 27).toInt).toNat (pj_fi G0 171 27).toInt.toNat h = some (h + m)
theorem pj_qp_r (G : pj_G) : pj_qp G G := ⟨Int.le_refl _, fun _ _ => rfl⟩
theorem pj_qm_r (G : pj_G) : pj_qm G G 0 := ⟨pj_qp_r G, fun h => by rw [show ((pj_fi G 171 27).toInt - (pj_fi G 171 27).toInt).toNat = 0 by omega]; rfl⟩
theorem pj_qp_k {G0 G G' : pj_G} (q : pj_qp G0 G) (e1 : pj_fi G' 171 27 = pj_fi G 171 27) (e2 : ∀ j, pj_ai G' 183 j = pj_ai G 183 j) : pj_qp G0 G' := ⟨by rw [e1]; exact q.1, fun j hj => by rw [e2]; exact q.2 j hj⟩
theorem pj_qm_k {G0 G G' : pj_G} {m : Nat} (q : pj_qm G0 G m) (e1 : pj_fi G' 171 27 = pj_fi G 171 27) (e2 : ∀ j, pj_ai G' 183 j = pj_ai G 183 j) : pj_qm G0 G' m := ⟨pj_qp_k q.1 e1 e2, fun h => by
  rw [e1, show (fun j => pj_ai G' 183 j) = (fun j => pj_ai G 183 j) from funext e2]
  exact q.2 h⟩
theorem pj_qp_t {G0 G G' : pj_G} (q : pj_qp G0 G) (r : pj_qp G G') : pj_qp G0 G' := ⟨Int.le_trans q.1 r.1, fun j hj => by rw [r.2 j (Int.lt_of_lt_of_le hj q.1)]; exact q.2 j hj⟩
theorem pj_qm_t {G0 G G' : pj_G} {a b : Nat} (h0 : 0 ≤ (pj_fi G0 171 27).toInt) (q : pj_qm G0 G a) (r : pj_qm G G' b) : pj_qm G0 G' (a + b) := ⟨pj_qp_t q.1 r.1, fun h => by
  have h1 := q.1.1
  have h2 := r.1.1
  rw [show ((pj_fi G' 171 27).toInt - (pj_fi G0 171 27).toInt).toNat = ((pj_fi G 171 27).toInt - (pj_fi G0 171 27).toInt).toNat + ((pj_fi G' 171 27).toInt - (pj_fi G 171 27).toInt).toNat by omega, pj_vp_app, pj_vp_cg (g := fun j => pj_ai G 183 j) _ _ _ (fun j h3 h4 => r.1.2 j (by omega)), q.2 h]
  show pj_vp (fun j => pj_ai G' 183 j) _ _ (h + a) = _
  rw [show (pj_fi G0 171 27).toInt.toNat + ((pj_fi G 171 27).toInt - (pj_fi G0 171 27).toInt).toNat = (pj_fi G 171 27).toInt.toNat by omega, r.2 (h + a), Nat.add_assoc]⟩
/-- a step is written -/
def pj_qc (G G' : pj_G) (c : Int32) : Prop := (pj_fi G' 171 27).toInt = (pj_fi G 171 27).toInt + 1 ∧ (∀ j : Nat, (j : Int) ≠ (pj_fi G 171 27).toInt → pj_ai G' 183 j = pj_ai G 183 j) ∧ (pj_ai G' 183 (pj_fi G 171 27).toInt.toNat).toInt = c.toInt
theorem pj_qp_c {G0 G G' : pj_G} {c : Int32} (q : pj_qp G0 G) (r : pj_qc G G' c) : pj_qp G0 G' := ⟨by have := q.1; have := r.1; omega, fun j hj => by
  have := q.1
  rw [r.2.1 j (by omega)]
  exact q.2 j hj⟩
theorem pj_qm_c {G0 G G' : pj_G} {c : Int32} {m m' : Nat} (h0 : 0 ≤ (pj_fi G0 171 27).toInt) (q : pj_qm G0 G m) (r : pj_qc G G' c) (hs : ∀ h, pj_vst c (h + m) = some (h + m')) : pj_qm G0 G' m' := ⟨pj_qp_c q.1 r, fun h => by
  have h1 := q.1.1
  have h2 := r.1
  rw [show ((pj_fi G' 171 27).toInt - (pj_fi G0 171 27).toInt).toNat = ((pj_fi G 171 27).toInt - (pj_fi G0 171 27).toInt).toNat + 1 by omega, pj_vp_app, pj_vp_cg (g := fun j => pj_ai G 183 j) _ _ _ (fun j h3 h4 => r.2.1 j (by omega)), q.2 h]
  show pj_vp (fun j => pj_ai G' 183 j) 1 _ (h + m) = _
  rw [show (pj_fi G0 171 27).toInt.toNat + ((pj_fi G 171 27).toInt - (pj_fi G0 171 27).toInt).toNat = (pj_fi G 171 27).toInt.toNat by omega, pj_vp_s]
  have e : pj_ai G' 183 (pj_fi G 171 27).toInt.toNat = c := Int32.toInt_inj.mp r.2.2
  show (pj_vst (pj_ai G' 183 (pj_fi G 171 27).toInt.toNat) (h + m)).bind _ = _
  rw [e, hs h]
  rfl⟩
theorem pj_vs0 {c : Int32} {m : Nat} (h : c.toInt < 2000) : ∀ x, pj_vst c (x + m) = some (x + (m + 1)) := fun x => by
  unfold pj_vst
  rw [if_neg (by omega), if_neg (by omega)]
  rfl
theorem pj_vs1 {c : Int32} {m : Nat} (h : c.toInt = 3000) : ∀ x, pj_vst c (x + (m + 1)) = some (x + (m + 1)) := fun x => by
  unfold pj_vst
  rw [if_pos h, if_pos (by omega)]
theorem pj_vs2 {c : Int32} {m : Nat} (h : c.toInt ≠ 3000) (h2 : 2000 ≤ c.toInt) : ∀ x, pj_vst c (x + (m + 2)) = some (x + (m + 1)) := fun x => by
  unfold pj_vst
  rw [if_neg h, if_pos h2, if_pos (by omega)]
  rfl
def kc_197 : pj_KT := ([(171, 27)], [171, 183], [183])
theorem ct_197 (G0 : pj_G) (hI : pj_Inv G0) (c : Int32) (p0_ : -1 ≤ c.toInt ∧ c.toInt ≤ 3000 ∧ (c.toInt ≤ 1006 ∨ 2000 ≤ c.toInt)) (p1_ : (pj_fi G0 171 27).toInt ≤ 79) : pj_Y 1 197 [.ref 171, .int c] G0 (fun v G' => v = none ∧ pj_Inv G' ∧ pj_kpt kc_197 G0 G' ∧ (pj_qc G0 G' c)) := by
  have c0_ : (Int32.ofInt 1).toInt = 1 := by decide
  refine pj_Y_X (M := pj_m197) rfl rfl (Nat.le_of_ble_eq_true rfl) ?_
  have hK : pj_kpt kc_197 G0 G0 := pj_kpt_r _ _
  show pj_X _ _ G0 0 [(0, .ref 171), (1, .int c)] [] _
  obtain ⟨y1, hy1⟩ : ∃ z : Int32, z = pj_fi G0 171 27 := ⟨_, rfl⟩
  have ey1 : (pj_fi G0 171 27).toInt = y1.toInt := by rw [hy1]
  have ry1 : (0 : Int) ≤ y1.toInt ∧ y1.toInt ≤ 80 := by rw [hy1]; exact hI.2.1 171 27 (0, 80) rfl
  refine pj_X_of (fun r h => pj_R_to (G0, 1, [(0, .ref 171), (1, .int c)], [.ref 171], 0, 0) 1 2 (fun _ => rfl) h) ?_
  refine pj_X_of (fun r h => pj_T_gr hI rfl rfl rfl h) ?_
  refine pj_X_of (fun r h => pj_R_to (G0, 5, [(0, .ref 171), (1, .int c)], [.ref 171, .ref 183], 0, 0) 5 2 (fun _ => rfl) h) ?_
  refine pj_X_of (fun r h => pj_T_gi hI rfl rfl h) ?_
  show pj_X _ _ G0 8 [(0, .ref 171), (1, .int c)] [.int (pj_fi G0 171 27), .ref 183] _
  refine pj_X_eqi (show pj_fi G0 171 27 = y1 from hy1.symm) ?_
  refine pj_X_of (fun r h => pj_R_to (G0, 9, [(0, .ref 171), (1, .int c)], [.int c, .int y1, .ref 183], 0, 0) 9 2 (fun _ => rfl) h) ?_
  refine pj_X_of (fun r h => pj_T_is hI rfl rfl (by omega) (by omega) h) ?_
  show pj_X _ _ (pj_wa G0 183 y1.toInt.toNat c) 10 [(0, .ref 171), (1, .int c)] [] _
  obtain ⟨G2, hG2⟩ : ∃ H, H = pj_wa G0 183 y1.toInt.toNat c := ⟨_, rfl⟩
  have iG2 : pj_Inv G2 := by rw [hG2]; exact pj_Inv_wa hI rfl (fun q hq => by cases hq; exact ⟨by show (-1 : Int) ≤ _; omega, by show _ ≤ (3000 : Int); omega, by show _ ≤ (1006 : Int) ∨ (2000 : Int) ≤ _; omega⟩) (fun n hn => by cases hn)
  have kG2 : pj_kpt kc_197 G0 G2 := by rw [hG2]; exact pj_kpt_a hK rfl
  rw [← hG2]
  refine pj_X_of (fun r h => pj_R_to (G2, 12, [(0, .ref 171), (1, .int c)], [.ref 171, .ref 171], 0, 0) 12 3 (fun _ => rfl) h) ?_
  refine pj_X_of (fun r h => pj_T_gi iG2 rfl rfl h) ?_
  show pj_X _ _ G2 15 [(0, .ref 171), (1, .int c)] [.int (pj_fi G2 171 27), .ref 171] _
  refine pj_X_eqi (show pj_fi G2 171 27 = y1 from by rw [hG2, pj_fi_wa]; exact hy1.symm) ?_
  refine pj_X_of (fun r h => pj_R_to (G2, 17, [(0, .ref 171), (1, .int c)], [.int (y1 + (Int32.ofInt 1)), .ref 171], 0, 0) 17 3 (fun _ => rfl) h) ?_
  obtain ⟨z3, hz3⟩ : ∃ z : Int32, z = y1 + (Int32.ofInt 1) := ⟨_, rfl⟩
  refine pj_X_eqi hz3.symm ?_
  have fz3_0 : z3.toInt = y1.toInt + (Int32.ofInt 1).toInt := by rw [hz3]; exact pj_addI (by have := pj_i32 y1; have := pj_i32 (Int32.ofInt 1); omega) (by have := pj_i32 y1; have := pj_i32 (Int32.ofInt 1); omega)
  refine pj_X_of (fun r h => pj_T_pf iG2 rfl rfl rfl h) ?_
  show pj_X _ _ (pj_wv G2 171 27 (.int z3)) 20 [(0, .ref 171), (1, .int c)] [] _
  obtain ⟨G4, hG4⟩ : ∃ H, H = pj_wv G2 171 27 (.int z3) := ⟨_, rfl⟩
  have iG4 : pj_Inv G4 := by rw [hG4]; exact pj_Inv_wi iG2 (ci := 12) rfl (fun q hq => by cases hq; exact ⟨by show (0 : Int) ≤ _; omega, by show _ ≤ (80 : Int); omega⟩)
  have kG4 : pj_kpt kc_197 G0 G4 := by rw [hG4]; exact pj_kpt_v kG2 rfl
  rw [← hG4]
  have q5 : (pj_fi G4 171 27).toInt = z3.toInt := by rw [show pj_fi G4 171 27 = z3 from by rw [hG4]; exact pj_fi_wi iG2.1 (ci := 12) rfl _]
  have hn : ∀ j : Nat, (j : Int) ≠ (pj_fi G0 171 27).toInt → pj_ai G4 183 j = pj_ai G0 183 j := fun j hj => by rw [hG4, pj_ai_wv, hG2, pj_ai_wa_nj _ _ _ _ _ (by omega)]
  have hv : (pj_ai G4 183 (pj_fi G0 171 27).toInt.toNat).toInt = c.toInt := by rw [show (pj_fi G0 171 27).toInt.toNat = y1.toInt.toNat by omega, hG4, pj_ai_wv, hG2, pj_ai_wa_eq hI.1 rfl]
  exact pj_X_rt rfl rfl ⟨rfl, iG4, kG4, ⟨by omega, hn, hv⟩⟩
def kc_186e : pj_KT := ([(171, 17)], [171], [])
theorem lp_ct_186e (G0 : pj_G) (hI0 : pj_Inv G0) (dg : Int32) (rdg : (1 : Int) ≤ dg.toInt ∧ dg.toInt ≤ 3) : ∀ mn : Nat, (∀ (G : pj_G) (hI : pj_Inv G) (hK : pj_kpt kc_186e G0 G) (v2 : Int32) (v3 : Int32), ((0 : Int) ≤ v2.toInt ∧ v2.toInt ≤ 999) → ((0 : Int) ≤ v3.toInt ∧ v3.toInt ≤ 3) → (v3.toInt = 0 → v2.toInt = 0) → (v3.toInt = 1 → v2.toInt ≤ 9) → (v3.toInt = 2 → v2.toInt ≤ 99) → (v3.toInt ≤ dg.toInt) → ((pj_fi G 171 17).toInt = (pj_fi G0 171 17).toInt + v3.toInt) → (v3.toInt = 0 → ((pj_fi G 171 17).toInt < (pj_fi G 171 18).toInt ∧ 48 ≤ (pj_ai G 180 (pj_fi G 171 17).toInt.toNat).toInt ∧ (pj_ai G 180 (pj_fi G 171 17).toInt.toNat).toInt ≤ 57)) → ((pj_fi G0 171 17).toInt ≤ (pj_fi G0 171 18).toInt → (pj_fi G 171 17).toInt ≤ (pj_fi G 171 18).toInt) → 3 - v3.toInt < (mn : Int) → pj_X 2 pj_m186 G 13 [(0, .ref 171), (1, .int dg), (2, .int v2), (3, .int v3)] [] (fun v G' => ∃ y : Int32, v = some (.int y) ∧ pj_Inv G' ∧ pj_kpt kc_186e G0 G' ∧ ((-1 : Int) ≤ y.toInt ∧ y.toInt ≤ 999) ∧ ((dg.toInt = 1 → y.toInt ≤ 9) ∧ (dg.toInt = 2 → y.toInt ≤ 99) ∧ (pj_fi G0 171 17).toInt ≤ (pj_fi G' 171 17).toInt ∧ (0 ≤ y.toInt → (pj_fi G0 171 17).toInt + 1 ≤ (pj_fi G' 171 17).toInt) ∧ ((pj_fi G0 171 17).toInt ≤ (pj_fi G0 171 18).toInt → (pj_fi G' 171 17).toInt ≤ (pj_fi G' 171 18).toInt) ∧ ((pj_fi G0 171 17).toInt < (pj_fi G0 171 18).toInt ∧ 48 ≤ (pj_ai G0 180 (pj_fi G0 171 17).toInt.toNat).toInt ∧ (pj_ai G0 180 (pj_fi G0 171 17).toInt.toNat).toInt ≤ 57 → 0 ≤ y.toInt)))) := by
  have c0_ : ((Int8.ofInt 10).toInt32).toInt = 10 := by decide
  have c1_ : ((Int8.ofInt 48).toInt32).toInt = 48 := by decide
  have c2_ : (Int32.ofInt (-1)).toInt = -1 := by decide
  have c3_ : (Int32.ofInt 0).toInt = 0 := by decide
  have c4_ : (Int32.ofInt 1).toInt = 1 := by decide
  intro mn
  induction mn with
  | zero =>
    intro G hI hK v2 v3 rv2 rv3 x0_ x1_ x2_ x3_ x4_ x5_ x6_ hm
    exfalso
    omega
  | succ mn ih =>
    intro G hI hK v2 v3 rv2 rv3 x0_ x1_ x2_ x3_ x4_ x5_ x6_ hm
    obtain ⟨y1, hy1⟩ : ∃ z : Int32, z = pj_fi G 171 17 := ⟨_, rfl⟩
    have ey1 : (pj_fi G 171 17).toInt = y1.toInt := by rw [hy1]
    have ry1 : (0 : Int) ≤ y1.toInt ∧ y1.toInt ≤ 80 := by rw [hy1]; exact hI.2.1 171 17 (0, 80) rfl
    obtain ⟨y2, hy2⟩ : ∃ z : Int32, z = pj_fi G 171 18 := ⟨_, rfl⟩
    have ey2 : (pj_fi G 171 18).toInt = y2.toInt := by rw [hy2]
    have ry2 : (0 : Int) ≤ y2.toInt ∧ y2.toInt ≤ 80 := by rw [hy2]; exact hI.2.1 171 18 (0, 80) rfl
    refine pj_X_of (fun r h => pj_R_to (G, 15, [(0, .ref 171), (1, .int dg), (2, .int v2), (3, .int v3)], [.int dg, .int v3], 0, 0) 15 3 (fun _ => rfl) h) ?_
    cases b3 : pj_c1 .ge v3 dg with
    | true =>
      have ub3 := pj_u_geT b3
      refine pj_X_of (fun r h => pj_R_icT 59 rfl rfl b3 h) ?_
      refine pj_X_of (fun r h => pj_R_to (G, 60, [(0, .ref 171), (1, .int dg), (2, .int v2), (3, .int v3)], [.int v2], 0, 0) 60 2 (fun _ => rfl) h) ?_
      have q4 : (pj_fi G 171 17).toInt = y1.toInt := by rw [show pj_fi G 171 17 = y1 from hy1.symm]
      have q5 : (pj_fi G 171 18).toInt = y2.toInt := by rw [show pj_fi G 171 18 = y2 from hy2.symm]
      exact pj_X_rt rfl rfl ⟨_, rfl, hI, hK, ⟨by omega, by omega⟩, by omega⟩
    | false =>
      have ub3 := pj_u_geF b3
      refine pj_X_of (fun r h => pj_R_icF rfl b3 h) ?_
      refine pj_X_of (fun r h => pj_R_to (G, 19, [(0, .ref 171), (1, .int dg), (2, .int v2), (3, .int v3)], [.ref 171], 0, 0) 19 2 (fun _ => rfl) h) ?_
      have q6 : (pj_fi G 171 17).toInt = y1.toInt := by rw [show pj_fi G 171 17 = y1 from hy1.symm]
      have q7 : (pj_fi G 171 18).toInt = y2.toInt := by rw [show pj_fi G 171 18 = y2 from hy2.symm]
      refine pj_X_ca (vs := [.ref 171]) rfl (fun _ => rfl) ⟨Nat.le_of_ble_eq_true rfl, Nat.le_of_ble_eq_true rfl, pj_T_rcv hI rfl⟩ ⟨rfl, rfl⟩ (pj_Y_up (by decide) (ct_183 G hI)) ?_
      rintro _ _ ⟨y8, rfl, rfl, ry8, ey8⟩
      show pj_X _ _ G 22 [(0, .ref 171), (1, .int dg), (2, .int v2), (3, .int v3)] [.int y8] _
      cases b9 : pj_c1 .eq y8 0 with
      | true =>
        have ub9 := pj_u0_eqT b9
        refine pj_X_of (fun r h => pj_R_ifT 59 rfl rfl b9 h) ?_
        refine pj_X_of (fun r h => pj_R_to (G, 60, [(0, .ref 171), (1, .int dg), (2, .int v2), (3, .int v3)], [.int v2], 0, 0) 60 2 (fun _ => rfl) h) ?_
        have q10 : (pj_fi G 171 17).toInt = y1.toInt := by rw [show pj_fi G 171 17 = y1 from hy1.symm]
        have q11 : (pj_fi G 171 18).toInt = y2.toInt := by rw [show pj_fi G 171 18 = y2 from hy2.symm]
        exact pj_X_rt rfl rfl ⟨_, rfl, hI, hK, ⟨by omega, by omega⟩, by omega⟩
      | false =>
        have ub9 := pj_u0_eqF b9
        refine pj_X_of (fun r h => pj_R_ifF rfl b9 h) ?_
        refine pj_X_of (fun r h => pj_R_to (G, 29, [(0, .ref 171), (1, .int dg), (2, .int v2), (3, .int v3)], [.int (((Int8.ofInt 10).toInt32) * v2)], 0, 0) 29 4 (fun _ => rfl) h) ?_
        obtain ⟨z12, hz12⟩ : ∃ z : Int32, z = ((Int8.ofInt 10).toInt32) * v2 := ⟨_, rfl⟩
        refine pj_X_eqi hz12.symm ?_
        have fz12_0 : z12.toInt = 10 * v2.toInt := by rw [hz12]; exact pj_mulL (by decide) (by omega) (by omega)
        refine pj_X_of (fun r h => pj_R_to (G, 30, [(0, .ref 171), (1, .int dg), (2, .int v2), (3, .int v3)], [.ref 171, .int z12], 0, 0) 30 2 (fun _ => rfl) h) ?_
        refine pj_X_of (fun r h => pj_T_gr hI rfl rfl rfl h) ?_
        refine pj_X_of (fun r h => pj_R_to (G, 34, [(0, .ref 171), (1, .int dg), (2, .int v2), (3, .int v3)], [.ref 171, .ref 180, .int z12], 0, 0) 34 2 (fun _ => rfl) h) ?_
        refine pj_X_of (fun r h => pj_T_gi hI rfl rfl h) ?_
        show pj_X _ _ G 37 [(0, .ref 171), (1, .int dg), (2, .int v2), (3, .int v3)] [.int (pj_fi G 171 17), .ref 180, .int z12] _
        refine pj_X_eqi (show pj_fi G 171 17 = y1 from hy1.symm) ?_
        refine pj_X_of (fun r h => pj_T_il hI rfl rfl (by omega) (by omega) h) ?_
        show pj_X _ _ G 38 [(0, .ref 171), (1, .int dg), (2, .int v2), (3, .int v3)] [.int (pj_ai G 180 y1.toInt.toNat), .int z12] _
        obtain ⟨z13, hz13⟩ : ∃ z : Int32, z = pj_ai G 180 y1.toInt.toNat := ⟨_, rfl⟩
        refine pj_X_eqi hz13.symm ?_
        have ez13 : (pj_ai G 180 y1.toInt.toNat).toInt = z13.toInt := by rw [hz13]
        have fz13_0 : (0 : Int) ≤ z13.toInt ∧ z13.toInt ≤ 255 ∧ (z13.toInt ≤ 0 ∨ 0 ≤ z13.toInt) := by rw [hz13]; exact hI.2.2.1 180 (80, 0, 255, 0, 0) rfl _ (by show _ < 80; omega)
        have gz13 : (pj_ai G 180 (pj_fi G 171 17).toInt.toNat).toInt = z13.toInt := by rw [show pj_fi G 171 17 = y1 from hy1.symm, hz13]
        refine pj_X_of (fun r h => pj_R_to (G, 39, [(0, .ref 171), (1, .int dg), (2, .int v2), (3, .int v3)], [.int (z12 + z13)], 0, 0) 39 2 (fun _ => rfl) h) ?_
        obtain ⟨z14, hz14⟩ : ∃ z : Int32, z = z12 + z13 := ⟨_, rfl⟩
        refine pj_X_eqi hz14.symm ?_
        have fz14_0 : z14.toInt = z12.toInt + z13.toInt := by rw [hz14]; exact pj_addI (by have := pj_i32 z12; have := pj_i32 z13; omega) (by have := pj_i32 z12; have := pj_i32 z13; omega)
        refine pj_X_of (fun r h => pj_R_to (G, 42, [(0, .ref 171), (1, .int dg), (2, .int v2), (3, .int v3)], [.int (z14 - ((Int8.ofInt 48).toInt32))], 0, 0) 42 3 (fun _ => rfl) h) ?_
        obtain ⟨z15, hz15⟩ : ∃ z : Int32, z = z14 - ((Int8.ofInt 48).toInt32) := ⟨_, rfl⟩
        refine pj_X_eqi hz15.symm ?_
        have fz15_0 : z15.toInt = z14.toInt - ((Int8.ofInt 48).toInt32).toInt := by rw [hz15]; exact pj_subI (by have := pj_i32 z14; have := pj_i32 ((Int8.ofInt 48).toInt32); omega) (by have := pj_i32 z14; have := pj_i32 ((Int8.ofInt 48).toInt32); omega)
        refine pj_X_of (fun r h => pj_R_to (G, 45, [(2, .int z15), (0, .ref 171), (1, .int dg), (3, .int v3)], [.ref 171, .ref 171], 0, 0) 45 4 (fun _ => rfl) h) ?_
        refine pj_X_of (fun r h => pj_T_gi hI rfl rfl h) ?_
        show pj_X _ _ G 48 [(2, .int z15), (0, .ref 171), (1, .int dg), (3, .int v3)] [.int (pj_fi G 171 17), .ref 171] _
        refine pj_X_eqi (show pj_fi G 171 17 = y1 from hy1.symm) ?_
        refine pj_X_of (fun r h => pj_R_to (G, 50, [(2, .int z15), (0, .ref 171), (1, .int dg), (3, .int v3)], [.int (y1 + (Int32.ofInt 1)), .ref 171], 0, 0) 50 3 (fun _ => rfl) h) ?_
        obtain ⟨z16, hz16⟩ : ∃ z : Int32, z = y1 + (Int32.ofInt 1) := ⟨_, rfl⟩
        refine pj_X_eqi hz16.symm ?_
        have fz16_0 : z16.toInt = y1.toInt + (Int32.ofInt 1).toInt := by rw [hz16]; exact pj_addI (by have := pj_i32 y1; have := pj_i32 (Int32.ofInt 1); omega) (by have := pj_i32 y1; have := pj_i32 (Int32.ofInt 1); omega)
        refine pj_X_of (fun r h => pj_T_pf hI rfl rfl rfl h) ?_
        show pj_X _ _ (pj_wv G 171 17 (.int z16)) 53 [(2, .int z15), (0, .ref 171), (1, .int dg), (3, .int v3)] [] _
        obtain ⟨G17, hG17⟩ : ∃ H, H = pj_wv G 171 17 (.int z16) := ⟨_, rfl⟩
        have iG17 : pj_Inv G17 := by rw [hG17]; exact pj_Inv_wi hI (ci := 12) rfl (fun q hq => by cases hq; exact ⟨by show (0 : Int) ≤ _; omega, by show _ ≤ (80 : Int); omega⟩)
        have kG17 : pj_kpt kc_186e G0 G17 := by rw [hG17]; exact pj_kpt_v hK rfl
        rw [← hG17]
        refine pj_X_of (fun r h => pj_R_to (G17, 56, [(3, .int (v3 + Int32.ofInt 1)), (2, .int z15), (0, .ref 171), (1, .int dg)], [], 0, 0) 56 2 (fun _ => rfl) h) ?_
        obtain ⟨z18, hz18⟩ : ∃ z : Int32, z = v3 + Int32.ofInt 1 := ⟨_, rfl⟩
        rw [← hz18]
        have fz18_0 : z18.toInt = v3.toInt + (Int32.ofInt 1).toInt := by rw [hz18]; exact pj_addI (by have := pj_i32 v3; have := pj_i32 (Int32.ofInt 1); omega) (by have := pj_i32 v3; have := pj_i32 (Int32.ofInt 1); omega)
        refine pj_X_of (fun r h => pj_R_to (G17, 13, [(3, .int z18), (2, .int z15), (0, .ref 171), (1, .int dg)], [], 0, 0) 13 2 (fun _ => rfl) h) ?_
        have q19 : (pj_fi G17 171 17).toInt = z16.toInt := by rw [show pj_fi G17 171 17 = z16 from by rw [hG17]; exact pj_fi_wi hI.1 (ci := 12) rfl _]
        have q20 : (pj_fi G17 171 18).toInt = y2.toInt := by rw [show pj_fi G17 171 18 = y2 from by rw [hG17, pj_fi_wv_ne _ _ _ _ _ _ (by decide)]; exact hy2.symm]
        exact pj_X_sub [(0, .ref 171), (1, .int dg), (2, .int z15), (3, .int z18)] (show List.Nodup [0, 1, 2, 3] by decide) ⟨rfl, rfl, rfl, rfl, trivial⟩ (ih G17 iG17 kG17 z15 z18 ⟨by omega, by omega⟩ ⟨by omega, by omega⟩ (by omega) (by omega) (by omega) (by omega) (by omega) (by omega) (by omega) (by omega))
theorem ct_186e (G0 : pj_G) (hI : pj_Inv G0) (dg : Int32) (rdg : (1 : Int) ≤ dg.toInt ∧ dg.toInt ≤ 3) : pj_Y 3 186 [.ref 171, .int dg] G0 (fun v G' => ∃ y : Int32, v = some (.int y) ∧ pj_Inv G' ∧ pj_kpt kc_186e G0 G' ∧ ((-1 : Int) ≤ y.toInt ∧ y.toInt ≤ 999) ∧ ((dg.toInt = 1 → y.toInt ≤ 9) ∧ (dg.toInt = 2 → y.toInt ≤ 99) ∧ (pj_fi G0 171 17).toInt ≤ (pj_fi G' 171 17).toInt ∧ (0 ≤ y.toInt → (pj_fi G0 171 17).toInt + 1 ≤ (pj_fi G' 171 17).toInt) ∧ ((pj_fi G0 171 17).toInt ≤ (pj_fi G0 171 18).toInt → (pj_fi G' 171 17).toInt ≤ (pj_fi G' 171 18).toInt) ∧ ((pj_fi G0 171 17).toInt < (pj_fi G0 171 18).toInt ∧ 48 ≤ (pj_ai G0 180 (pj_fi G0 171 17).toInt.toNat).toInt ∧ (pj_ai G0 180 (pj_fi G0 171 17).toInt.toNat).toInt ≤ 57 → 0 ≤ y.toInt))) := by
  have c0_ : ((Int8.ofInt 10).toInt32).toInt = 10 := by decide
  have c1_ : ((Int8.ofInt 48).toInt32).toInt = 48 := by decide
  have c2_ : (Int32.ofInt (-1)).toInt = -1 := by decide
  have c3_ : (Int32.ofInt 0).toInt = 0 := by decide
  have c4_ : (Int32.ofInt 1).toInt = 1 := by decide
  refine pj_Y_X (M := pj_m186) rfl rfl (Nat.le_of_ble_eq_true rfl) ?_
  have hK : pj_kpt kc_186e G0 G0 := pj_kpt_r _ _
  show pj_X _ _ G0 0 [(0, .ref 171), (1, .int dg)] [] _
  obtain ⟨y21, hy21⟩ : ∃ z : Int32, z = pj_fi G0 171 17 := ⟨_, rfl⟩
  have ey21 : (pj_fi G0 171 17).toInt = y21.toInt := by rw [hy21]
  have ry21 : (0 : Int) ≤ y21.toInt ∧ y21.toInt ≤ 80 := by rw [hy21]; exact hI.2.1 171 17 (0, 80) rfl
  obtain ⟨y22, hy22⟩ : ∃ z : Int32, z = pj_fi G0 171 18 := ⟨_, rfl⟩
  have ey22 : (pj_fi G0 171 18).toInt = y22.toInt := by rw [hy22]
  have ry22 : (0 : Int) ≤ y22.toInt ∧ y22.toInt ≤ 80 := by rw [hy22]; exact hI.2.1 171 18 (0, 80) rfl
  refine pj_X_of (fun r h => pj_R_to (G0, 1, [(0, .ref 171), (1, .int dg)], [.ref 171], 0, 0) 1 2 (fun _ => rfl) h) ?_
  have q23 : (pj_fi G0 171 17).toInt = y21.toInt := by rw [show pj_fi G0 171 17 = y21 from hy21.symm]
  have q24 : (pj_fi G0 171 18).toInt = y22.toInt := by rw [show pj_fi G0 171 18 = y22 from hy22.symm]
  refine pj_X_ca (vs := [.ref 171]) rfl (fun _ => rfl) ⟨Nat.le_of_ble_eq_true rfl, Nat.le_of_ble_eq_true rfl, pj_T_rcv hI rfl⟩ ⟨rfl, rfl⟩ (pj_Y_up (by decide) (ct_183 G0 hI)) ?_
  rintro _ _ ⟨y25, rfl, rfl, ry25, ey25⟩
  show pj_X _ _ G0 4 [(0, .ref 171), (1, .int dg)] [.int y25] _
  cases b26 : pj_c1 .ne y25 0 with
  | true =>
    have ub26 := pj_u0_neT b26
    refine pj_X_of (fun r h => pj_R_ifT 9 rfl rfl b26 h) ?_
    refine pj_X_of (fun r h => pj_R_to (G0, 13, [(3, .int (Int32.ofInt 0)), (2, .int (Int32.ofInt 0)), (0, .ref 171), (1, .int dg)], [], 0, 0) 13 5 (fun _ => rfl) h) ?_
    have q27 : (pj_fi G0 171 17).toInt = y21.toInt := by rw [show pj_fi G0 171 17 = y21 from hy21.symm]
    have q28 : (pj_fi G0 171 18).toInt = y22.toInt := by rw [show pj_fi G0 171 18 = y22 from hy22.symm]
    exact pj_X_sub [(0, .ref 171), (1, .int dg), (2, .int (Int32.ofInt 0)), (3, .int (Int32.ofInt 0))] (show List.Nodup [0, 1, 2, 3] by decide) ⟨rfl, rfl, rfl, rfl, trivial⟩ ((lp_ct_186e G0 hI dg rdg 4) G0 hI hK (Int32.ofInt 0) (Int32.ofInt 0) ⟨by omega, by omega⟩ ⟨by omega, by omega⟩ (by omega) (by omega) (by omega) (by omega) (by omega) (by omega) (by omega) (by omega))
  | false =>
    have ub26 := pj_u0_neF b26
    refine pj_X_of (fun r h => pj_R_ifF rfl b26 h) ?_
    refine pj_X_of (fun r h => pj_R_to (G0, 8, [(0, .ref 171), (1, .int dg)], [.int (Int32.ofInt (-1))], 0, 0) 8 2 (fun _ => rfl) h) ?_
    have q29 : (pj_fi G0 171 17).toInt = y21.toInt := by rw [show pj_fi G0 171 17 = y21 from hy21.symm]
    have q30 : (pj_fi G0 171 18).toInt = y22.toInt := by rw [show pj_fi G0 171 18 = y22 from hy22.symm]
    exact pj_X_rt rfl rfl ⟨_, rfl, hI, hK, ⟨by omega, by omega⟩, by omega⟩
