/-! CALLS OF THE CLASS THAT THROW, AND THE LAW'S HELPERS THAT CATCH -/
/-- a method, with an end where it would throw -/
def pj_mT (M : pj_M) (tp : Nat) : pj_M := (M.1, M.2.1, M.2.2.1, none, M.2.2.2.2.1, (tp, .return_, 1, [], 0) :: M.2.2.2.2.2)
theorem pj_mT_to {call : pj_F} {n0 : Nat} {xs : Nat → Int32} {M : pj_M} {tp : Nat} (hn : ∀ e ∈ M.2.2.2.2.2, e.2.1 ≠ .return_) {G' : pj_G} {mc ms : Nat} : ∀ (n : Nat) (t : pj_T), pj_run call n0 xs (pj_mT M tp) n t = some (none, G', mc, ms) → ∃ L', pj_to call n0 xs M tp n t = some (G', tp, L', [], mc, ms)
  | 0, t, h => by cases (show (none : pj_V) = _ from h)
  | n + 1, t, h => by
    rw [pj_run_s] at h
    show ∃ L', pj_oneT call n0 xs M tp (pj_to call n0 xs M tp n) t = _
    unfold pj_oneT
    by_cases e : t.2.1 = tp
    · rw [if_pos e]
      unfold pj_one at h
      have hf : pj_find (pj_mT M tp).2.2.2.2.2 t.2.1 = some (.return_, 1, [], 0) := by
        unfold pj_find
        show (List.find? _ ((tp, .return_, 1, [], 0) :: M.2.2.2.2.2)).map _ = _
        rw [List.find?_cons_of_pos (by rw [e]; exact Nat.beq_refl _)]
        rfl
      rw [hf] at h
      dsimp only at h
      obtain ⟨G, pc, L, S, a, b⟩ := t
      cases S with
      | nil =>
        have h : some ((none : Option Value), G, a, b) = some (none, G', mc, ms) := h
        cases h
        have e : pc = tp := e
        subst e
        exact ⟨L, rfl⟩
      | cons x S => cases (show (none : pj_V) = _ from h)
    · rw [if_neg e]
      unfold pj_one at h
      have hf : pj_find (pj_mT M tp).2.2.2.2.2 t.2.1 = pj_find M.2.2.2.2.2 t.2.1 := by
        unfold pj_find
        show (List.find? _ ((tp, .return_, 1, [], 0) :: M.2.2.2.2.2)).map _ = _
        rw [List.find?_cons_of_neg (by intro q; exact e (Nat.eq_of_beq_eq_true q).symm)]
      rw [hf] at h
      cases hq : pj_find M.2.2.2.2.2 t.2.1 with
      | none =>
        rw [hq] at h
        cases h
      | some q =>
        rw [hq] at h
        dsimp only at h ⊢
        have hr : pj_rt (pj_mT M tp).2.2.2.1 q.1 t.2.2.2.1 = none := by
          have hne := hn _ (pj_find_s hq)
          show pj_rt none q.1 t.2.2.2.1 = none
          obtain ⟨i, q2⟩ := q
          cases i
          case return_ => exact absurd rfl hne
          case ireturn =>
            simp only [pj_rt]
            split
            · rfl
            · rfl
          case lreturn =>
            simp only [pj_rt]
            split
            · rename_i h9
              cases h9
            · rfl
          case areturn =>
            simp only [pj_rt]
            split
            · rename_i h9
              cases h9
            · rename_i h9
              cases h9
            · rfl
          all_goals rfl
        rw [hr] at h
        dsimp only at h
        show ∃ L', (match pj_s call n0 xs M.2.2.1 q.2.2.1 q.2.2.2 q.1 t.2.1 t.1 t.2.2.1 t.2.2.2.1 with
          | none => none
          | some r => pj_to call n0 xs M tp n (r.1, r.2.1, r.2.2.1, r.2.2.2.1, t.2.2.2.2.1 + r.2.2.2.2.1, t.2.2.2.2.2 + r.2.2.2.2.2)) = _
        have h : (match pj_s call n0 xs M.2.2.1 q.2.2.1 q.2.2.2 q.1 t.2.1 t.1 t.2.2.1 t.2.2.2.1 with
          | none => none
          | some r => pj_run call n0 xs (pj_mT M tp) n (r.1, r.2.1, r.2.2.1, r.2.2.2.1, t.2.2.2.2.1 + r.2.2.2.2.1, t.2.2.2.2.2 + r.2.2.2.2.2)) = some (none, G', mc, ms) := h
        cases hs : pj_s call n0 xs M.2.2.1 q.2.2.1 q.2.2.2 q.1 t.2.1 t.1 t.2.2.1 t.2.2.2.1 with
        | none =>
          rw [hs] at h
          cases h
        | some r =>
          rw [hs] at h
          exact pj_mT_to hn n _ h
def pj_t123 : pj_M := pj_mT pj_m123 20
theorem tx_123 (G0 : pj_G) (hI : pj_Inv G0) (c : Int32) (w : Int32) (yh : Int32) (hE : pj_E (pj_cx 2) 94 [.ref 6, .int c] G0 (some (.int yh), G0, 0, 0)) (hy : 0 ≤ yh.toInt ∧ yh.toInt ≤ 1) (hc : yh.toInt = 0 ∨ w.toInt < 0 ∨ 5 < w.toInt) : pj_X 6 pj_t123 G0 0 [(0, .ref 1), (1, .int c), (2, .int w)] [] (fun v G' => v = none ∧ G0 = G') := by
  have c0_ : (Int32.ofInt 5).toInt = 5 := by decide
  have hK : pj_kpt ([], [], []) G0 G0 := pj_kpt_r _ _
  show pj_X _ _ G0 0 [(0, .ref 1), (1, .int c), (2, .int w)] [] _
  refine pj_X_of (fun r h => pj_R_to (G0, 1, [(0, .ref 1), (1, .int c), (2, .int w)], [.ref 1], 0, 0) 1 2 (fun _ => rfl) h) ?_
  refine pj_X_of (fun r h => pj_T_gr hI rfl rfl rfl h) ?_
  refine pj_X_of (fun r h => pj_R_to (G0, 5, [(0, .ref 1), (1, .int c), (2, .int w)], [.int c, .ref 6], 0, 0) 5 2 (fun _ => rfl) h) ?_
  refine pj_X_ca (vs := [.ref 6, .int c]) rfl (fun _ => rfl) ⟨Nat.le_of_ble_eq_true rfl, Nat.le_of_ble_eq_true rfl, pj_T_rcv hI rfl⟩ ⟨rfl, rfl⟩ (pj_Y_up (by decide) (show pj_Y 2 94 [.ref 6, .int c] G0 (fun v G' => v = some (.int yh) ∧ G0 = G') from ⟨_, _, hE, rfl, rfl⟩)) ?_
  rintro _ _ ⟨rfl, rfl⟩
  show pj_X _ _ G0 8 [(0, .ref 1), (1, .int c), (2, .int w)] [.int yh] _
  cases b1 : pj_c1 .eq yh 0 with
  | true =>
    have ub1 := pj_u0_eqT b1
    refine pj_X_of (fun r h => pj_R_ifT 20 rfl rfl b1 h) ?_
    exact pj_X_rt rfl rfl ⟨rfl, rfl⟩
  | false =>
    have ub1 := pj_u0_eqF b1
    refine pj_X_of (fun r h => pj_R_ifF rfl b1 h) ?_
    refine pj_X_of (fun r h => pj_R_to (G0, 12, [(0, .ref 1), (1, .int c), (2, .int w)], [.int w], 0, 0) 12 2 (fun _ => rfl) h) ?_
    cases b2 : pj_c1 .lt w 0 with
    | true =>
      have ub2 := pj_u0_ltT b2
      refine pj_X_of (fun r h => pj_R_ifT 20 rfl rfl b2 h) ?_
      exact pj_X_rt rfl rfl ⟨rfl, rfl⟩
    | false =>
      have ub2 := pj_u0_ltF b2
      refine pj_X_of (fun r h => pj_R_ifF rfl b2 h) ?_
      refine pj_X_of (fun r h => pj_R_to (G0, 17, [(0, .ref 1), (1, .int c), (2, .int w)], [.int (Int32.ofInt 5), .int w], 0, 0) 17 3 (fun _ => rfl) h) ?_
      cases b3 : pj_c1 .le w (Int32.ofInt 5) with
      | true =>
        have ub3 := pj_u_leT b3
        refine pj_X_of (fun r h => pj_R_icT 30 rfl rfl b3 h) ?_
        exfalso
        omega
      | false =>
        have ub3 := pj_u_leF b3
        refine pj_X_of (fun r h => pj_R_icF rfl b3 h) ?_
        exact pj_X_rt rfl rfl ⟨rfl, rfl⟩
theorem ct_123x (G0 : pj_G) (hI : pj_Inv G0) (c : Int32) (w : Int32) (yh : Int32) (hE : pj_E (pj_cx 2) 94 [.ref 6, .int c] G0 (some (.int yh), G0, 0, 0)) (hy : 0 ≤ yh.toInt ∧ yh.toInt ≤ 1) (hc : ¬ (yh.toInt = 0 ∨ w.toInt < 0 ∨ 5 < w.toInt) ∧ 0 ≤ c.toInt ∧ c.toInt ≤ 9) : pj_Y 7 123 [.ref 1, .int c, .int w] G0 (fun v G' => ∃ y : Int32, v = some (.int y) ∧ G0 = G' ∧ ((-2147483648 : Int) ≤ y.toInt ∧ y.toInt ≤ 2147483647)) := by
  have c0_ : (Int32.ofInt 5).toInt = 5 := by decide
  refine pj_Y_X (M := pj_m123) rfl rfl (Nat.le_of_ble_eq_true rfl) ?_
  have hK : pj_kpt ([], [], []) G0 G0 := pj_kpt_r _ _
  show pj_X _ _ G0 0 [(0, .ref 1), (1, .int c), (2, .int w)] [] _
  refine pj_X_of (fun r h => pj_R_to (G0, 1, [(0, .ref 1), (1, .int c), (2, .int w)], [.ref 1], 0, 0) 1 2 (fun _ => rfl) h) ?_
  refine pj_X_of (fun r h => pj_T_gr hI rfl rfl rfl h) ?_
  refine pj_X_of (fun r h => pj_R_to (G0, 5, [(0, .ref 1), (1, .int c), (2, .int w)], [.int c, .ref 6], 0, 0) 5 2 (fun _ => rfl) h) ?_
  refine pj_X_ca (vs := [.ref 6, .int c]) rfl (fun _ => rfl) ⟨Nat.le_of_ble_eq_true rfl, Nat.le_of_ble_eq_true rfl, pj_T_rcv hI rfl⟩ ⟨rfl, rfl⟩ (pj_Y_up (by decide) (show pj_Y 2 94 [.ref 6, .int c] G0 (fun v G' => v = some (.int yh) ∧ G0 = G') from ⟨_, _, hE, rfl, rfl⟩)) ?_
  rintro _ _ ⟨rfl, rfl⟩
  show pj_X _ _ G0 8 [(0, .ref 1), (1, .int c), (2, .int w)] [.int yh] _
  cases b1 : pj_c1 .eq yh 0 with
  | true =>
    have ub1 := pj_u0_eqT b1
    refine pj_X_of (fun r h => pj_R_ifT 20 rfl rfl b1 h) ?_
    exfalso
    omega
  | false =>
    have ub1 := pj_u0_eqF b1
    refine pj_X_of (fun r h => pj_R_ifF rfl b1 h) ?_
    refine pj_X_of (fun r h => pj_R_to (G0, 12, [(0, .ref 1), (1, .int c), (2, .int w)], [.int w], 0, 0) 12 2 (fun _ => rfl) h) ?_
    cases b2 : pj_c1 .lt w 0 with
    | true =>
      have ub2 := pj_u0_ltT b2
      refine pj_X_of (fun r h => pj_R_ifT 20 rfl rfl b2 h) ?_
      exfalso
      omega
    | false =>
      have ub2 := pj_u0_ltF b2
      refine pj_X_of (fun r h => pj_R_ifF rfl b2 h) ?_
      refine pj_X_of (fun r h => pj_R_to (G0, 17, [(0, .ref 1), (1, .int c), (2, .int w)], [.int (Int32.ofInt 5), .int w], 0, 0) 17 3 (fun _ => rfl) h) ?_
      cases b3 : pj_c1 .le w (Int32.ofInt 5) with
      | true =>
        have ub3 := pj_u_leT b3
        refine pj_X_of (fun r h => pj_R_icT 30 rfl rfl b3 h) ?_
        refine pj_X_of (fun r h => pj_R_to (G0, 31, [(0, .ref 1), (1, .int c), (2, .int w)], [.int w], 0, 0) 31 2 (fun _ => rfl) h) ?_
        by_cases t4 : w.toInt = 0
        · refine pj_X_of (fun r h => pj_R_tw 64 rfl (n := 0) t4 rfl h) ?_
          refine pj_X_of (fun r h => pj_R_to (G0, 65, [(0, .ref 1), (1, .int c), (2, .int w)], [.ref 1], 0, 0) 65 2 (fun _ => rfl) h) ?_
          refine pj_X_of (fun r h => pj_T_gr hI rfl rfl rfl h) ?_
          refine pj_X_gm hI rfl rfl (fun q5 => ?_) (fun q5 => ?_)
          · refine pj_X_of (fun r h => pj_T_gr hI rfl rfl rfl h) ?_
            refine pj_X_of (fun r h => pj_R_to (G0, 75, [(0, .ref 1), (1, .int c), (2, .int w)], [.int c, .ref 8], 0, 0) 75 2 (fun _ => rfl) h) ?_
            refine pj_X_of (fun r h => pj_T_il hI rfl rfl (by omega) (by omega) h) ?_
            show pj_X _ _ G0 76 [(0, .ref 1), (1, .int c), (2, .int w)] [.int (pj_ai G0 8 c.toInt.toNat)] _
            obtain ⟨z6, hz6⟩ : ∃ z : Int32, z = pj_ai G0 8 c.toInt.toNat := ⟨_, rfl⟩
            refine pj_X_eqi hz6.symm ?_
            have ez6 : (pj_ai G0 8 c.toInt.toNat).toInt = z6.toInt := by rw [hz6]
            have fz6_0 : (0 : Int) ≤ z6.toInt ∧ z6.toInt ≤ 7 ∧ (z6.toInt ≤ 0 ∨ 0 ≤ z6.toInt) := by rw [hz6]; exact hI.2.2.1 8 (10, 0, 7, 0, 0) rfl _ (by show _ < 10; omega)
            exact pj_X_rt rfl rfl ⟨_, rfl, rfl, pj_i32 _⟩
          · refine pj_X_of (fun r h => pj_T_gr hI rfl rfl rfl h) ?_
            refine pj_X_of (fun r h => pj_R_to (G0, 75, [(0, .ref 1), (1, .int c), (2, .int w)], [.int c, .ref 15], 0, 0) 75 2 (fun _ => rfl) h) ?_
            refine pj_X_of (fun r h => pj_T_il hI rfl rfl (by omega) (by omega) h) ?_
            show pj_X _ _ G0 76 [(0, .ref 1), (1, .int c), (2, .int w)] [.int (pj_ai G0 15 c.toInt.toNat)] _
            obtain ⟨z7, hz7⟩ : ∃ z : Int32, z = pj_ai G0 15 c.toInt.toNat := ⟨_, rfl⟩
            refine pj_X_eqi hz7.symm ?_
            have ez7 : (pj_ai G0 15 c.toInt.toNat).toInt = z7.toInt := by rw [hz7]
            have fz7_0 : (0 : Int) ≤ z7.toInt ∧ z7.toInt ≤ 7 ∧ (z7.toInt ≤ 0 ∨ 0 ≤ z7.toInt) := by rw [hz7]; exact hI.2.2.1 15 (10, 0, 7, 0, 0) rfl _ (by show _ < 10; omega)
            exact pj_X_rt rfl rfl ⟨_, rfl, rfl, pj_i32 _⟩
        by_cases t8 : w.toInt = 1
        · refine pj_X_of (fun r h => pj_R_tw 77 rfl (n := 1) t8 rfl h) ?_
          refine pj_X_of (fun r h => pj_R_to (G0, 78, [(0, .ref 1), (1, .int c), (2, .int w)], [.ref 1], 0, 0) 78 2 (fun _ => rfl) h) ?_
          refine pj_X_of (fun r h => pj_T_gr hI rfl rfl rfl h) ?_
          refine pj_X_gm hI rfl rfl (fun q9 => ?_) (fun q9 => ?_)
          · refine pj_X_of (fun r h => pj_T_gr hI rfl rfl rfl h) ?_
            refine pj_X_of (fun r h => pj_R_to (G0, 88, [(0, .ref 1), (1, .int c), (2, .int w)], [.int c, .ref 9], 0, 0) 88 2 (fun _ => rfl) h) ?_
            refine pj_X_of (fun r h => pj_T_il hI rfl rfl (by omega) (by omega) h) ?_
            show pj_X _ _ G0 89 [(0, .ref 1), (1, .int c), (2, .int w)] [.int (pj_ai G0 9 c.toInt.toNat)] _
            obtain ⟨z10, hz10⟩ : ∃ z : Int32, z = pj_ai G0 9 c.toInt.toNat := ⟨_, rfl⟩
            refine pj_X_eqi hz10.symm ?_
            have ez10 : (pj_ai G0 9 c.toInt.toNat).toInt = z10.toInt := by rw [hz10]
            have fz10_0 : (0 : Int) ≤ z10.toInt ∧ z10.toInt ≤ 7 ∧ (z10.toInt ≤ 0 ∨ 0 ≤ z10.toInt) := by rw [hz10]; exact hI.2.2.1 9 (10, 0, 7, 0, 0) rfl _ (by show _ < 10; omega)
            exact pj_X_rt rfl rfl ⟨_, rfl, rfl, pj_i32 _⟩
          · refine pj_X_of (fun r h => pj_T_gr hI rfl rfl rfl h) ?_
            refine pj_X_of (fun r h => pj_R_to (G0, 88, [(0, .ref 1), (1, .int c), (2, .int w)], [.int c, .ref 16], 0, 0) 88 2 (fun _ => rfl) h) ?_
            refine pj_X_of (fun r h => pj_T_il hI rfl rfl (by omega) (by omega) h) ?_
            show pj_X _ _ G0 89 [(0, .ref 1), (1, .int c), (2, .int w)] [.int (pj_ai G0 16 c.toInt.toNat)] _
            obtain ⟨z11, hz11⟩ : ∃ z : Int32, z = pj_ai G0 16 c.toInt.toNat := ⟨_, rfl⟩
            refine pj_X_eqi hz11.symm ?_
            have ez11 : (pj_ai G0 16 c.toInt.toNat).toInt = z11.toInt := by rw [hz11]
            have fz11_0 : (0 : Int) ≤ z11.toInt ∧ z11.toInt ≤ 7 ∧ (z11.toInt ≤ 0 ∨ 0 ≤ z11.toInt) := by rw [hz11]; exact hI.2.2.1 16 (10, 0, 7, 0, 0) rfl _ (by show _ < 10; omega)
            exact pj_X_rt rfl rfl ⟨_, rfl, rfl, pj_i32 _⟩
        by_cases t12 : w.toInt = 2
        · refine pj_X_of (fun r h => pj_R_tw 90 rfl (n := 2) t12 rfl h) ?_
          refine pj_X_of (fun r h => pj_R_to (G0, 91, [(0, .ref 1), (1, .int c), (2, .int w)], [.ref 1], 0, 0) 91 2 (fun _ => rfl) h) ?_
          refine pj_X_of (fun r h => pj_T_gr hI rfl rfl rfl h) ?_
          refine pj_X_gm hI rfl rfl (fun q13 => ?_) (fun q13 => ?_)
          · refine pj_X_of (fun r h => pj_T_gr hI rfl rfl rfl h) ?_
            refine pj_X_of (fun r h => pj_R_to (G0, 101, [(0, .ref 1), (1, .int c), (2, .int w)], [.int c, .ref 10], 0, 0) 101 2 (fun _ => rfl) h) ?_
            refine pj_X_of (fun r h => pj_T_il hI rfl rfl (by omega) (by omega) h) ?_
            show pj_X _ _ G0 102 [(0, .ref 1), (1, .int c), (2, .int w)] [.int (pj_ai G0 10 c.toInt.toNat)] _
            obtain ⟨z14, hz14⟩ : ∃ z : Int32, z = pj_ai G0 10 c.toInt.toNat := ⟨_, rfl⟩
            refine pj_X_eqi hz14.symm ?_
            have ez14 : (pj_ai G0 10 c.toInt.toNat).toInt = z14.toInt := by rw [hz14]
            exact pj_X_rt rfl rfl ⟨_, rfl, rfl, pj_i32 _⟩
          · refine pj_X_of (fun r h => pj_T_gr hI rfl rfl rfl h) ?_
            refine pj_X_of (fun r h => pj_R_to (G0, 101, [(0, .ref 1), (1, .int c), (2, .int w)], [.int c, .ref 17], 0, 0) 101 2 (fun _ => rfl) h) ?_
            refine pj_X_of (fun r h => pj_T_il hI rfl rfl (by omega) (by omega) h) ?_
            show pj_X _ _ G0 102 [(0, .ref 1), (1, .int c), (2, .int w)] [.int (pj_ai G0 17 c.toInt.toNat)] _
            obtain ⟨z15, hz15⟩ : ∃ z : Int32, z = pj_ai G0 17 c.toInt.toNat := ⟨_, rfl⟩
            refine pj_X_eqi hz15.symm ?_
            have ez15 : (pj_ai G0 17 c.toInt.toNat).toInt = z15.toInt := by rw [hz15]
            exact pj_X_rt rfl rfl ⟨_, rfl, rfl, pj_i32 _⟩
        by_cases t16 : w.toInt = 3
        · refine pj_X_of (fun r h => pj_R_tw 103 rfl (n := 3) t16 rfl h) ?_
          refine pj_X_of (fun r h => pj_R_to (G0, 104, [(0, .ref 1), (1, .int c), (2, .int w)], [.ref 1], 0, 0) 104 2 (fun _ => rfl) h) ?_
          refine pj_X_of (fun r h => pj_T_gr hI rfl rfl rfl h) ?_
          refine pj_X_gm hI rfl rfl (fun q17 => ?_) (fun q17 => ?_)
          · refine pj_X_of (fun r h => pj_T_gr hI rfl rfl rfl h) ?_
            refine pj_X_of (fun r h => pj_R_to (G0, 114, [(0, .ref 1), (1, .int c), (2, .int w)], [.int c, .ref 11], 0, 0) 114 2 (fun _ => rfl) h) ?_
            refine pj_X_of (fun r h => pj_T_il hI rfl rfl (by omega) (by omega) h) ?_
            show pj_X _ _ G0 115 [(0, .ref 1), (1, .int c), (2, .int w)] [.int (pj_ai G0 11 c.toInt.toNat)] _
            obtain ⟨z18, hz18⟩ : ∃ z : Int32, z = pj_ai G0 11 c.toInt.toNat := ⟨_, rfl⟩
            refine pj_X_eqi hz18.symm ?_
            have ez18 : (pj_ai G0 11 c.toInt.toNat).toInt = z18.toInt := by rw [hz18]
            have fz18_0 : (0 : Int) ≤ z18.toInt ∧ z18.toInt ≤ 9 ∧ (z18.toInt ≤ 0 ∨ 0 ≤ z18.toInt) := by rw [hz18]; exact hI.2.2.1 11 (10, 0, 9, 0, 0) rfl _ (by show _ < 10; omega)
            exact pj_X_rt rfl rfl ⟨_, rfl, rfl, pj_i32 _⟩
          · refine pj_X_of (fun r h => pj_T_gr hI rfl rfl rfl h) ?_
            refine pj_X_of (fun r h => pj_R_to (G0, 114, [(0, .ref 1), (1, .int c), (2, .int w)], [.int c, .ref 18], 0, 0) 114 2 (fun _ => rfl) h) ?_
            refine pj_X_of (fun r h => pj_T_il hI rfl rfl (by omega) (by omega) h) ?_
            show pj_X _ _ G0 115 [(0, .ref 1), (1, .int c), (2, .int w)] [.int (pj_ai G0 18 c.toInt.toNat)] _
            obtain ⟨z19, hz19⟩ : ∃ z : Int32, z = pj_ai G0 18 c.toInt.toNat := ⟨_, rfl⟩
            refine pj_X_eqi hz19.symm ?_
            have ez19 : (pj_ai G0 18 c.toInt.toNat).toInt = z19.toInt := by rw [hz19]
            have fz19_0 : (0 : Int) ≤ z19.toInt ∧ z19.toInt ≤ 9 ∧ (z19.toInt ≤ 0 ∨ 0 ≤ z19.toInt) := by rw [hz19]; exact hI.2.2.1 18 (10, 0, 9, 0, 0) rfl _ (by show _ < 10; omega)
            exact pj_X_rt rfl rfl ⟨_, rfl, rfl, pj_i32 _⟩
        by_cases t20 : w.toInt = 4
        · refine pj_X_of (fun r h => pj_R_tw 116 rfl (n := 4) t20 rfl h) ?_
          refine pj_X_of (fun r h => pj_R_to (G0, 117, [(0, .ref 1), (1, .int c), (2, .int w)], [.ref 1], 0, 0) 117 2 (fun _ => rfl) h) ?_
          refine pj_X_of (fun r h => pj_T_gr hI rfl rfl rfl h) ?_
          refine pj_X_of (fun r h => pj_T_gr hI rfl rfl rfl h) ?_
          refine pj_X_of (fun r h => pj_R_to (G0, 124, [(0, .ref 1), (1, .int c), (2, .int w)], [.int c, .ref 21], 0, 0) 124 2 (fun _ => rfl) h) ?_
          refine pj_X_ca (vs := [.ref 21, .int c]) rfl (fun _ => rfl) ⟨Nat.le_of_ble_eq_true rfl, Nat.le_of_ble_eq_true rfl, pj_T_rcv hI rfl⟩ ⟨rfl, rfl⟩ (pj_Y_up (by decide) (ct_70_21x G0 hI c)) ?_
          rintro _ _ ⟨y21, rfl, rfl, ry21, fy21⟩
          show pj_X _ _ G0 127 [(0, .ref 1), (1, .int c), (2, .int w)] [.int y21] _
          exact pj_X_rt rfl rfl ⟨_, rfl, rfl, pj_i32 _⟩
        refine pj_X_of (fun r h => pj_R_td 128 rfl (by omega) rfl h) ?_
        refine pj_X_of (fun r h => pj_R_to (G0, 129, [(0, .ref 1), (1, .int c), (2, .int w)], [.ref 1], 0, 0) 129 2 (fun _ => rfl) h) ?_
        refine pj_X_of (fun r h => pj_T_gr hI rfl rfl rfl h) ?_
        refine pj_X_of (fun r h => pj_T_gr hI rfl rfl rfl h) ?_
        refine pj_X_of (fun r h => pj_R_to (G0, 136, [(0, .ref 1), (1, .int c), (2, .int w)], [.int c, .ref 21], 0, 0) 136 2 (fun _ => rfl) h) ?_
        refine pj_X_ca (vs := [.ref 21, .int c]) rfl (fun _ => rfl) ⟨Nat.le_of_ble_eq_true rfl, Nat.le_of_ble_eq_true rfl, pj_T_rcv hI rfl⟩ ⟨rfl, rfl⟩ (pj_Y_up (by decide) (ct_71_21x G0 hI c)) ?_
        rintro _ _ ⟨y22, rfl, rfl, ry22, fy22⟩
        show pj_X _ _ G0 139 [(0, .ref 1), (1, .int c), (2, .int w)] [.int y22] _
        exact pj_X_rt rfl rfl ⟨_, rfl, rfl, pj_i32 _⟩
      | false =>
        have ub3 := pj_u_leF b3
        refine pj_X_of (fun r h => pj_R_icF rfl b3 h) ?_
        exfalso
        omega
def pj_t124 : pj_M := pj_mT pj_m124 20
theorem tx_124 (G0 : pj_G) (hI : pj_Inv G0) (c : Int32) (w : Int32) (yh : Int32) (hE : pj_E (pj_cx 2) 95 [.ref 6, .int c] G0 (some (.int yh), G0, 0, 0)) (hy : 0 ≤ yh.toInt ∧ yh.toInt ≤ 1) (hc : yh.toInt = 0 ∨ w.toInt < 0 ∨ 4 < w.toInt) : pj_X 6 pj_t124 G0 0 [(0, .ref 1), (1, .int c), (2, .int w)] [] (fun v G' => v = none ∧ G0 = G') := by
  have c0_ : (Int32.ofInt 4).toInt = 4 := by decide
  have hK : pj_kpt ([], [], []) G0 G0 := pj_kpt_r _ _
  show pj_X _ _ G0 0 [(0, .ref 1), (1, .int c), (2, .int w)] [] _
  refine pj_X_of (fun r h => pj_R_to (G0, 1, [(0, .ref 1), (1, .int c), (2, .int w)], [.ref 1], 0, 0) 1 2 (fun _ => rfl) h) ?_
  refine pj_X_of (fun r h => pj_T_gr hI rfl rfl rfl h) ?_
  refine pj_X_of (fun r h => pj_R_to (G0, 5, [(0, .ref 1), (1, .int c), (2, .int w)], [.int c, .ref 6], 0, 0) 5 2 (fun _ => rfl) h) ?_
  refine pj_X_ca (vs := [.ref 6, .int c]) rfl (fun _ => rfl) ⟨Nat.le_of_ble_eq_true rfl, Nat.le_of_ble_eq_true rfl, pj_T_rcv hI rfl⟩ ⟨rfl, rfl⟩ (pj_Y_up (by decide) (show pj_Y 2 95 [.ref 6, .int c] G0 (fun v G' => v = some (.int yh) ∧ G0 = G') from ⟨_, _, hE, rfl, rfl⟩)) ?_
  rintro _ _ ⟨rfl, rfl⟩
  show pj_X _ _ G0 8 [(0, .ref 1), (1, .int c), (2, .int w)] [.int yh] _
  cases b1 : pj_c1 .eq yh 0 with
  | true =>
    have ub1 := pj_u0_eqT b1
    refine pj_X_of (fun r h => pj_R_ifT 20 rfl rfl b1 h) ?_
    exact pj_X_rt rfl rfl ⟨rfl, rfl⟩
  | false =>
    have ub1 := pj_u0_eqF b1
    refine pj_X_of (fun r h => pj_R_ifF rfl b1 h) ?_
    refine pj_X_of (fun r h => pj_R_to (G0, 12, [(0, .ref 1), (1, .int c), (2, .int w)], [.int w], 0, 0) 12 2 (fun _ => rfl) h) ?_
    cases b2 : pj_c1 .lt w 0 with
    | true =>
      have ub2 := pj_u0_ltT b2
      refine pj_X_of (fun r h => pj_R_ifT 20 rfl rfl b2 h) ?_
      exact pj_X_rt rfl rfl ⟨rfl, rfl⟩
    | false =>
      have ub2 := pj_u0_ltF b2
      refine pj_X_of (fun r h => pj_R_ifF rfl b2 h) ?_
      refine pj_X_of (fun r h => pj_R_to (G0, 17, [(0, .ref 1), (1, .int c), (2, .int w)], [.int (Int32.ofInt 4), .int w], 0, 0) 17 3 (fun _ => rfl) h) ?_
      cases b3 : pj_c1 .le w (Int32.ofInt 4) with
      | true =>
        have ub3 := pj_u_leT b3
        refine pj_X_of (fun r h => pj_R_icT 30 rfl rfl b3 h) ?_
        exfalso
        omega
      | false =>
        have ub3 := pj_u_leF b3
        refine pj_X_of (fun r h => pj_R_icF rfl b3 h) ?_
        exact pj_X_rt rfl rfl ⟨rfl, rfl⟩
theorem ct_124x (G0 : pj_G) (hI : pj_Inv G0) (c : Int32) (w : Int32) (yh : Int32) (hE : pj_E (pj_cx 2) 95 [.ref 6, .int c] G0 (some (.int yh), G0, 0, 0)) (hy : 0 ≤ yh.toInt ∧ yh.toInt ≤ 1) (hc : ¬ (yh.toInt = 0 ∨ w.toInt < 0 ∨ 4 < w.toInt) ∧ 0 ≤ c.toInt ∧ c.toInt ≤ 5) : pj_Y 7 124 [.ref 1, .int c, .int w] G0 (fun v G' => ∃ y : Int32, v = some (.int y) ∧ G0 = G' ∧ ((-2147483648 : Int) ≤ y.toInt ∧ y.toInt ≤ 2147483647)) := by
  have c0_ : (Int32.ofInt 4).toInt = 4 := by decide
  refine pj_Y_X (M := pj_m124) rfl rfl (Nat.le_of_ble_eq_true rfl) ?_
  have hK : pj_kpt ([], [], []) G0 G0 := pj_kpt_r _ _
  show pj_X _ _ G0 0 [(0, .ref 1), (1, .int c), (2, .int w)] [] _
  refine pj_X_of (fun r h => pj_R_to (G0, 1, [(0, .ref 1), (1, .int c), (2, .int w)], [.ref 1], 0, 0) 1 2 (fun _ => rfl) h) ?_
  refine pj_X_of (fun r h => pj_T_gr hI rfl rfl rfl h) ?_
  refine pj_X_of (fun r h => pj_R_to (G0, 5, [(0, .ref 1), (1, .int c), (2, .int w)], [.int c, .ref 6], 0, 0) 5 2 (fun _ => rfl) h) ?_
  refine pj_X_ca (vs := [.ref 6, .int c]) rfl (fun _ => rfl) ⟨Nat.le_of_ble_eq_true rfl, Nat.le_of_ble_eq_true rfl, pj_T_rcv hI rfl⟩ ⟨rfl, rfl⟩ (pj_Y_up (by decide) (show pj_Y 2 95 [.ref 6, .int c] G0 (fun v G' => v = some (.int yh) ∧ G0 = G') from ⟨_, _, hE, rfl, rfl⟩)) ?_
  rintro _ _ ⟨rfl, rfl⟩
  show pj_X _ _ G0 8 [(0, .ref 1), (1, .int c), (2, .int w)] [.int yh] _
  cases b1 : pj_c1 .eq yh 0 with
  | true =>
    have ub1 := pj_u0_eqT b1
    refine pj_X_of (fun r h => pj_R_ifT 20 rfl rfl b1 h) ?_
    exfalso
    omega
  | false =>
    have ub1 := pj_u0_eqF b1
    refine pj_X_of (fun r h => pj_R_ifF rfl b1 h) ?_
    refine pj_X_of (fun r h => pj_R_to (G0, 12, [(0, .ref 1), (1, .int c), (2, .int w)], [.int w], 0, 0) 12 2 (fun _ => rfl) h) ?_
    cases b2 : pj_c1 .lt w 0 with
    | true =>
      have ub2 := pj_u0_ltT b2
      refine pj_X_of (fun r h => pj_R_ifT 20 rfl rfl b2 h) ?_
      exfalso
      omega
    | false =>
      have ub2 := pj_u0_ltF b2
      refine pj_X_of (fun r h => pj_R_ifF rfl b2 h) ?_
      refine pj_X_of (fun r h => pj_R_to (G0, 17, [(0, .ref 1), (1, .int c), (2, .int w)], [.int (Int32.ofInt 4), .int w], 0, 0) 17 3 (fun _ => rfl) h) ?_
      cases b3 : pj_c1 .le w (Int32.ofInt 4) with
      | true =>
        have ub3 := pj_u_leT b3
        refine pj_X_of (fun r h => pj_R_icT 30 rfl rfl b3 h) ?_
        refine pj_X_of (fun r h => pj_R_to (G0, 31, [(0, .ref 1), (1, .int c), (2, .int w)], [.int w], 0, 0) 31 2 (fun _ => rfl) h) ?_
        by_cases t4 : w.toInt = 0
        · refine pj_X_of (fun r h => pj_R_tw 60 rfl (n := 0) t4 rfl h) ?_
          refine pj_X_of (fun r h => pj_R_to (G0, 61, [(0, .ref 1), (1, .int c), (2, .int w)], [.ref 1], 0, 0) 61 2 (fun _ => rfl) h) ?_
          refine pj_X_of (fun r h => pj_T_gr hI rfl rfl rfl h) ?_
          refine pj_X_of (fun r h => pj_T_gr hI rfl rfl rfl h) ?_
          refine pj_X_of (fun r h => pj_R_to (G0, 68, [(0, .ref 1), (1, .int c), (2, .int w)], [.int c, .ref 31], 0, 0) 68 2 (fun _ => rfl) h) ?_
          refine pj_X_of (fun r h => pj_T_il hI rfl rfl (by omega) (by omega) h) ?_
          show pj_X _ _ G0 69 [(0, .ref 1), (1, .int c), (2, .int w)] [.int (pj_ai G0 31 c.toInt.toNat)] _
          obtain ⟨z5, hz5⟩ : ∃ z : Int32, z = pj_ai G0 31 c.toInt.toNat := ⟨_, rfl⟩
          refine pj_X_eqi hz5.symm ?_
          have ez5 : (pj_ai G0 31 c.toInt.toNat).toInt = z5.toInt := by rw [hz5]
          exact pj_X_rt rfl rfl ⟨_, rfl, rfl, pj_i32 _⟩
        by_cases t6 : w.toInt = 1
        · refine pj_X_of (fun r h => pj_R_tw 70 rfl (n := 1) t6 rfl h) ?_
          refine pj_X_of (fun r h => pj_R_to (G0, 71, [(0, .ref 1), (1, .int c), (2, .int w)], [.ref 1], 0, 0) 71 2 (fun _ => rfl) h) ?_
          refine pj_X_of (fun r h => pj_T_gr hI rfl rfl rfl h) ?_
          refine pj_X_of (fun r h => pj_T_gr hI rfl rfl rfl h) ?_
          refine pj_X_of (fun r h => pj_T_gr hI rfl rfl rfl h) ?_
          refine pj_X_of (fun r h => pj_R_to (G0, 81, [(0, .ref 1), (1, .int c), (2, .int w)], [.int c, .ref 24], 0, 0) 81 2 (fun _ => rfl) h) ?_
          refine pj_X_of (fun r h => pj_T_il hI rfl rfl (by omega) (by omega) h) ?_
          show pj_X _ _ G0 82 [(0, .ref 1), (1, .int c), (2, .int w)] [.int (pj_ai G0 24 c.toInt.toNat)] _
          obtain ⟨z7, hz7⟩ : ∃ z : Int32, z = pj_ai G0 24 c.toInt.toNat := ⟨_, rfl⟩
          refine pj_X_eqi hz7.symm ?_
          have ez7 : (pj_ai G0 24 c.toInt.toNat).toInt = z7.toInt := by rw [hz7]
          exact pj_X_rt rfl rfl ⟨_, rfl, rfl, pj_i32 _⟩
        by_cases t8 : w.toInt = 2
        · refine pj_X_of (fun r h => pj_R_tw 83 rfl (n := 2) t8 rfl h) ?_
          refine pj_X_of (fun r h => pj_R_to (G0, 84, [(0, .ref 1), (1, .int c), (2, .int w)], [.ref 1], 0, 0) 84 2 (fun _ => rfl) h) ?_
          refine pj_X_of (fun r h => pj_T_gr hI rfl rfl rfl h) ?_
          refine pj_X_of (fun r h => pj_T_gr hI rfl rfl rfl h) ?_
          refine pj_X_of (fun r h => pj_T_gr hI rfl rfl rfl h) ?_
          refine pj_X_of (fun r h => pj_R_to (G0, 94, [(0, .ref 1), (1, .int c), (2, .int w)], [.int c, .ref 22], 0, 0) 94 2 (fun _ => rfl) h) ?_
          refine pj_X_of (fun r h => pj_T_il hI rfl rfl (by omega) (by omega) h) ?_
          show pj_X _ _ G0 95 [(0, .ref 1), (1, .int c), (2, .int w)] [.int (pj_ai G0 22 c.toInt.toNat)] _
          obtain ⟨z9, hz9⟩ : ∃ z : Int32, z = pj_ai G0 22 c.toInt.toNat := ⟨_, rfl⟩
          refine pj_X_eqi hz9.symm ?_
          have ez9 : (pj_ai G0 22 c.toInt.toNat).toInt = z9.toInt := by rw [hz9]
          have fz9_0 : (-1 : Int) ≤ z9.toInt ∧ z9.toInt ≤ 9 ∧ (z9.toInt ≤ -1 ∨ -1 ≤ z9.toInt) := by rw [hz9]; exact hI.2.2.1 22 (6, -1, 9, -1, -1) rfl _ (by show _ < 6; omega)
          exact pj_X_rt rfl rfl ⟨_, rfl, rfl, pj_i32 _⟩
        by_cases t10 : w.toInt = 3
        · refine pj_X_of (fun r h => pj_R_tw 96 rfl (n := 3) t10 rfl h) ?_
          refine pj_X_of (fun r h => pj_R_to (G0, 97, [(0, .ref 1), (1, .int c), (2, .int w)], [.ref 1], 0, 0) 97 2 (fun _ => rfl) h) ?_
          refine pj_X_of (fun r h => pj_T_gr hI rfl rfl rfl h) ?_
          refine pj_X_of (fun r h => pj_T_gr hI rfl rfl rfl h) ?_
          refine pj_X_of (fun r h => pj_T_gr hI rfl rfl rfl h) ?_
          refine pj_X_of (fun r h => pj_R_to (G0, 107, [(0, .ref 1), (1, .int c), (2, .int w)], [.int c, .ref 23], 0, 0) 107 2 (fun _ => rfl) h) ?_
          refine pj_X_of (fun r h => pj_T_il hI rfl rfl (by omega) (by omega) h) ?_
          show pj_X _ _ G0 108 [(0, .ref 1), (1, .int c), (2, .int w)] [.int (pj_ai G0 23 c.toInt.toNat)] _
          obtain ⟨z11, hz11⟩ : ∃ z : Int32, z = pj_ai G0 23 c.toInt.toNat := ⟨_, rfl⟩
          refine pj_X_eqi hz11.symm ?_
          have ez11 : (pj_ai G0 23 c.toInt.toNat).toInt = z11.toInt := by rw [hz11]
          exact pj_X_rt rfl rfl ⟨_, rfl, rfl, pj_i32 _⟩
        refine pj_X_of (fun r h => pj_R_td 109 rfl (by omega) rfl h) ?_
        refine pj_X_of (fun r h => pj_R_to (G0, 110, [(0, .ref 1), (1, .int c), (2, .int w)], [.ref 1], 0, 0) 110 2 (fun _ => rfl) h) ?_
        refine pj_X_of (fun r h => pj_T_gr hI rfl rfl rfl h) ?_
        refine pj_X_of (fun r h => pj_T_gr hI rfl rfl rfl h) ?_
        refine pj_X_of (fun r h => pj_T_gr hI rfl rfl rfl h) ?_
        refine pj_X_of (fun r h => pj_R_to (G0, 120, [(0, .ref 1), (1, .int c), (2, .int w)], [.int c, .ref 25], 0, 0) 120 2 (fun _ => rfl) h) ?_
        refine pj_X_of (fun r h => pj_T_il hI rfl rfl (by omega) (by omega) h) ?_
        show pj_X _ _ G0 121 [(0, .ref 1), (1, .int c), (2, .int w)] [.int (pj_ai G0 25 c.toInt.toNat)] _
        obtain ⟨z12, hz12⟩ : ∃ z : Int32, z = pj_ai G0 25 c.toInt.toNat := ⟨_, rfl⟩
        refine pj_X_eqi hz12.symm ?_
        have ez12 : (pj_ai G0 25 c.toInt.toNat).toInt = z12.toInt := by rw [hz12]
        exact pj_X_rt rfl rfl ⟨_, rfl, rfl, pj_i32 _⟩
      | false =>
        have ub3 := pj_u_leF b3
        refine pj_X_of (fun r h => pj_R_icF rfl b3 h) ?_
        exfalso
        omega
def pj_t125 : pj_M := pj_mT pj_m125 20
theorem tx_125 (G0 : pj_G) (hI : pj_Inv G0) (c : Int32) (w : Int32) (yh : Int32) (hE : pj_E (pj_cx 2) 96 [.ref 6, .int c] G0 (some (.int yh), G0, 0, 0)) (hy : 0 ≤ yh.toInt ∧ yh.toInt ≤ 1) (hc : yh.toInt = 0 ∨ w.toInt < 0 ∨ 1 < w.toInt) : pj_X 6 pj_t125 G0 0 [(0, .ref 1), (1, .int c), (2, .int w)] [] (fun v G' => v = none ∧ G0 = G') := by
  have c0_ : (Int32.ofInt 1).toInt = 1 := by decide
  have hK : pj_kpt ([], [], []) G0 G0 := pj_kpt_r _ _
  show pj_X _ _ G0 0 [(0, .ref 1), (1, .int c), (2, .int w)] [] _
  refine pj_X_of (fun r h => pj_R_to (G0, 1, [(0, .ref 1), (1, .int c), (2, .int w)], [.ref 1], 0, 0) 1 2 (fun _ => rfl) h) ?_
  refine pj_X_of (fun r h => pj_T_gr hI rfl rfl rfl h) ?_
  refine pj_X_of (fun r h => pj_R_to (G0, 5, [(0, .ref 1), (1, .int c), (2, .int w)], [.int c, .ref 6], 0, 0) 5 2 (fun _ => rfl) h) ?_
  refine pj_X_ca (vs := [.ref 6, .int c]) rfl (fun _ => rfl) ⟨Nat.le_of_ble_eq_true rfl, Nat.le_of_ble_eq_true rfl, pj_T_rcv hI rfl⟩ ⟨rfl, rfl⟩ (pj_Y_up (by decide) (show pj_Y 2 96 [.ref 6, .int c] G0 (fun v G' => v = some (.int yh) ∧ G0 = G') from ⟨_, _, hE, rfl, rfl⟩)) ?_
  rintro _ _ ⟨rfl, rfl⟩
  show pj_X _ _ G0 8 [(0, .ref 1), (1, .int c), (2, .int w)] [.int yh] _
  cases b1 : pj_c1 .eq yh 0 with
  | true =>
    have ub1 := pj_u0_eqT b1
    refine pj_X_of (fun r h => pj_R_ifT 20 rfl rfl b1 h) ?_
    exact pj_X_rt rfl rfl ⟨rfl, rfl⟩
  | false =>
    have ub1 := pj_u0_eqF b1
    refine pj_X_of (fun r h => pj_R_ifF rfl b1 h) ?_
    refine pj_X_of (fun r h => pj_R_to (G0, 12, [(0, .ref 1), (1, .int c), (2, .int w)], [.int w], 0, 0) 12 2 (fun _ => rfl) h) ?_
    cases b2 : pj_c1 .lt w 0 with
    | true =>
      have ub2 := pj_u0_ltT b2
      refine pj_X_of (fun r h => pj_R_ifT 20 rfl rfl b2 h) ?_
      exact pj_X_rt rfl rfl ⟨rfl, rfl⟩
    | false =>
      have ub2 := pj_u0_ltF b2
      refine pj_X_of (fun r h => pj_R_ifF rfl b2 h) ?_
      refine pj_X_of (fun r h => pj_R_to (G0, 17, [(0, .ref 1), (1, .int c), (2, .int w)], [.int (Int32.ofInt 1), .int w], 0, 0) 17 3 (fun _ => rfl) h) ?_
      cases b3 : pj_c1 .le w (Int32.ofInt 1) with
      | true =>
        have ub3 := pj_u_leT b3
        refine pj_X_of (fun r h => pj_R_icT 30 rfl rfl b3 h) ?_
        exfalso
        omega
      | false =>
        have ub3 := pj_u_leF b3
        refine pj_X_of (fun r h => pj_R_icF rfl b3 h) ?_
        exact pj_X_rt rfl rfl ⟨rfl, rfl⟩
theorem ct_125x (G0 : pj_G) (hI : pj_Inv G0) (c : Int32) (w : Int32) (yh : Int32) (hE : pj_E (pj_cx 2) 96 [.ref 6, .int c] G0 (some (.int yh), G0, 0, 0)) (hy : 0 ≤ yh.toInt ∧ yh.toInt ≤ 1) (hc : ¬ (yh.toInt = 0 ∨ w.toInt < 0 ∨ 1 < w.toInt) ∧ 0 ≤ c.toInt ∧ c.toInt ≤ 5) : pj_Y 7 125 [.ref 1, .int c, .int w] G0 (fun v G' => ∃ y : Int32, v = some (.int y) ∧ G0 = G' ∧ ((-2147483648 : Int) ≤ y.toInt ∧ y.toInt ≤ 2147483647)) := by
  have c0_ : (Int32.ofInt 1).toInt = 1 := by decide
  refine pj_Y_X (M := pj_m125) rfl rfl (Nat.le_of_ble_eq_true rfl) ?_
  have hK : pj_kpt ([], [], []) G0 G0 := pj_kpt_r _ _
  show pj_X _ _ G0 0 [(0, .ref 1), (1, .int c), (2, .int w)] [] _
  refine pj_X_of (fun r h => pj_R_to (G0, 1, [(0, .ref 1), (1, .int c), (2, .int w)], [.ref 1], 0, 0) 1 2 (fun _ => rfl) h) ?_
  refine pj_X_of (fun r h => pj_T_gr hI rfl rfl rfl h) ?_
  refine pj_X_of (fun r h => pj_R_to (G0, 5, [(0, .ref 1), (1, .int c), (2, .int w)], [.int c, .ref 6], 0, 0) 5 2 (fun _ => rfl) h) ?_
  refine pj_X_ca (vs := [.ref 6, .int c]) rfl (fun _ => rfl) ⟨Nat.le_of_ble_eq_true rfl, Nat.le_of_ble_eq_true rfl, pj_T_rcv hI rfl⟩ ⟨rfl, rfl⟩ (pj_Y_up (by decide) (show pj_Y 2 96 [.ref 6, .int c] G0 (fun v G' => v = some (.int yh) ∧ G0 = G') from ⟨_, _, hE, rfl, rfl⟩)) ?_
  rintro _ _ ⟨rfl, rfl⟩
  show pj_X _ _ G0 8 [(0, .ref 1), (1, .int c), (2, .int w)] [.int yh] _
  cases b1 : pj_c1 .eq yh 0 with
  | true =>
    have ub1 := pj_u0_eqT b1
    refine pj_X_of (fun r h => pj_R_ifT 20 rfl rfl b1 h) ?_
    exfalso
    omega
  | false =>
    have ub1 := pj_u0_eqF b1
    refine pj_X_of (fun r h => pj_R_ifF rfl b1 h) ?_
    refine pj_X_of (fun r h => pj_R_to (G0, 12, [(0, .ref 1), (1, .int c), (2, .int w)], [.int w], 0, 0) 12 2 (fun _ => rfl) h) ?_
    cases b2 : pj_c1 .lt w 0 with
    | true =>
      have ub2 := pj_u0_ltT b2
      refine pj_X_of (fun r h => pj_R_ifT 20 rfl rfl b2 h) ?_
      exfalso
      omega
    | false =>
      have ub2 := pj_u0_ltF b2
      refine pj_X_of (fun r h => pj_R_ifF rfl b2 h) ?_
      refine pj_X_of (fun r h => pj_R_to (G0, 17, [(0, .ref 1), (1, .int c), (2, .int w)], [.int (Int32.ofInt 1), .int w], 0, 0) 17 3 (fun _ => rfl) h) ?_
      cases b3 : pj_c1 .le w (Int32.ofInt 1) with
      | true =>
        have ub3 := pj_u_leT b3
        refine pj_X_of (fun r h => pj_R_icT 30 rfl rfl b3 h) ?_
        refine pj_X_of (fun r h => pj_R_to (G0, 31, [(0, .ref 1), (1, .int c), (2, .int w)], [.int w], 0, 0) 31 2 (fun _ => rfl) h) ?_
        cases b4 : pj_c1 .ne w 0 with
        | true =>
          have ub4 := pj_u0_neT b4
          refine pj_X_of (fun r h => pj_R_ifT 49 rfl rfl b4 h) ?_
          refine pj_X_of (fun r h => pj_R_to (G0, 50, [(0, .ref 1), (1, .int c), (2, .int w)], [.ref 1], 0, 0) 50 2 (fun _ => rfl) h) ?_
          refine pj_X_of (fun r h => pj_T_gr hI rfl rfl rfl h) ?_
          refine pj_X_of (fun r h => pj_T_gr hI rfl rfl rfl h) ?_
          refine pj_X_of (fun r h => pj_R_to (G0, 57, [(0, .ref 1), (1, .int c), (2, .int w)], [.int c, .ref 32], 0, 0) 57 2 (fun _ => rfl) h) ?_
          refine pj_X_of (fun r h => pj_T_il hI rfl rfl (by omega) (by omega) h) ?_
          show pj_X _ _ G0 58 [(0, .ref 1), (1, .int c), (2, .int w)] [.int (pj_ai G0 32 c.toInt.toNat)] _
          obtain ⟨z5, hz5⟩ : ∃ z : Int32, z = pj_ai G0 32 c.toInt.toNat := ⟨_, rfl⟩
          refine pj_X_eqi hz5.symm ?_
          have ez5 : (pj_ai G0 32 c.toInt.toNat).toInt = z5.toInt := by rw [hz5]
          exact pj_X_rt rfl rfl ⟨_, rfl, rfl, pj_i32 _⟩
        | false =>
          have ub4 := pj_u0_neF b4
          refine pj_X_of (fun r h => pj_R_ifF rfl b4 h) ?_
          refine pj_X_of (fun r h => pj_R_to (G0, 35, [(0, .ref 1), (1, .int c), (2, .int w)], [.ref 1], 0, 0) 35 2 (fun _ => rfl) h) ?_
          refine pj_X_of (fun r h => pj_T_gr hI rfl rfl rfl h) ?_
          refine pj_X_of (fun r h => pj_T_gr hI rfl rfl rfl h) ?_
          refine pj_X_of (fun r h => pj_T_gr hI rfl rfl rfl h) ?_
          refine pj_X_of (fun r h => pj_R_to (G0, 45, [(0, .ref 1), (1, .int c), (2, .int w)], [.int c, .ref 26], 0, 0) 45 2 (fun _ => rfl) h) ?_
          refine pj_X_of (fun r h => pj_T_il hI rfl rfl (by omega) (by omega) h) ?_
          show pj_X _ _ G0 46 [(0, .ref 1), (1, .int c), (2, .int w)] [.int (pj_ai G0 26 c.toInt.toNat)] _
          obtain ⟨z6, hz6⟩ : ∃ z : Int32, z = pj_ai G0 26 c.toInt.toNat := ⟨_, rfl⟩
          refine pj_X_eqi hz6.symm ?_
          have ez6 : (pj_ai G0 26 c.toInt.toNat).toInt = z6.toInt := by rw [hz6]
          have fz6_0 : (0 : Int) ≤ z6.toInt ∧ z6.toInt ≤ 7 ∧ (z6.toInt ≤ 0 ∨ 0 ≤ z6.toInt) := by rw [hz6]; exact hI.2.2.1 26 (6, 0, 7, 0, 0) rfl _ (by show _ < 6; omega)
          refine pj_X_of (fun r h => pj_R_to (G0, 58, [(0, .ref 1), (1, .int c), (2, .int w)], [.int z6], 0, 0) 58 2 (fun _ => rfl) h) ?_
          exact pj_X_rt rfl rfl ⟨_, rfl, rfl, pj_i32 _⟩
      | false =>
        have ub3 := pj_u_leF b3
        refine pj_X_of (fun r h => pj_R_icF rfl b3 h) ?_
        exfalso
        omega
def pj_t160 : pj_M := pj_mT pj_m160 15
theorem tx_160 (G0 : pj_G) (hI : pj_Inv G0) (i : Int32) (hc : i.toInt < 0 ∨ (pj_fi G0 4 1).toInt ≤ i.toInt) : pj_X 6 pj_t160 G0 0 [(0, .ref 1), (1, .int i)] [] (fun v G' => v = none ∧ G0 = G') := by
  have hK : pj_kpt ([], [], []) G0 G0 := pj_kpt_r _ _
  show pj_X _ _ G0 0 [(0, .ref 1), (1, .int i)] [] _
  obtain ⟨y1, hy1⟩ : ∃ z : Int32, z = pj_fi G0 4 1 := ⟨_, rfl⟩
  have ey1 : (pj_fi G0 4 1).toInt = y1.toInt := by rw [hy1]
  have ry1 : (0 : Int) ≤ y1.toInt ∧ y1.toInt ≤ 10 := by rw [hy1]; exact hI.2.1 4 1 (0, 10) rfl
  refine pj_X_of (fun r h => pj_R_to (G0, 1, [(0, .ref 1), (1, .int i)], [.int i], 0, 0) 1 2 (fun _ => rfl) h) ?_
  cases b2 : pj_c1 .lt i 0 with
  | true =>
    have ub2 := pj_u0_ltT b2
    refine pj_X_of (fun r h => pj_R_ifT 15 rfl rfl b2 h) ?_
    have q3 : (pj_fi G0 4 1).toInt = y1.toInt := by rw [show pj_fi G0 4 1 = y1 from hy1.symm]
    exact pj_X_rt rfl rfl ⟨rfl, rfl⟩
  | false =>
    have ub2 := pj_u0_ltF b2
    refine pj_X_of (fun r h => pj_R_ifF rfl b2 h) ?_
    refine pj_X_of (fun r h => pj_R_to (G0, 6, [(0, .ref 1), (1, .int i)], [.ref 1, .int i], 0, 0) 6 3 (fun _ => rfl) h) ?_
    refine pj_X_of (fun r h => pj_T_gr hI rfl rfl rfl h) ?_
    refine pj_X_of (fun r h => pj_T_gi hI rfl rfl h) ?_
    show pj_X _ _ G0 12 [(0, .ref 1), (1, .int i)] [.int (pj_fi G0 4 1), .int i] _
    refine pj_X_eqi (show pj_fi G0 4 1 = y1 from hy1.symm) ?_
    cases b4 : pj_c1 .lt i y1 with
    | true =>
      have ub4 := pj_u_ltT b4
      refine pj_X_of (fun r h => pj_R_icT 26 rfl rfl b4 h) ?_
      exfalso
      omega
    | false =>
      have ub4 := pj_u_ltF b4
      refine pj_X_of (fun r h => pj_R_icF rfl b4 h) ?_
      have q5 : (pj_fi G0 4 1).toInt = y1.toInt := by rw [show pj_fi G0 4 1 = y1 from hy1.symm]
      exact pj_X_rt rfl rfl ⟨rfl, rfl⟩
theorem ct_160x (G0 : pj_G) (hI : pj_Inv G0) (i : Int32) (hc : ¬ (i.toInt < 0 ∨ (pj_fi G0 4 1).toInt ≤ i.toInt)) : pj_Y 7 160 [.ref 1, .int i] G0 (fun v G' => ∃ y : Int64, v = some (.long y) ∧ G0 = G') := by
  refine pj_Y_X (M := pj_m160) rfl rfl (Nat.le_of_ble_eq_true rfl) ?_
  have hK : pj_kpt ([], [], []) G0 G0 := pj_kpt_r _ _
  show pj_X _ _ G0 0 [(0, .ref 1), (1, .int i)] [] _
  obtain ⟨y1, hy1⟩ : ∃ z : Int32, z = pj_fi G0 4 1 := ⟨_, rfl⟩
  have ey1 : (pj_fi G0 4 1).toInt = y1.toInt := by rw [hy1]
  have ry1 : (0 : Int) ≤ y1.toInt ∧ y1.toInt ≤ 10 := by rw [hy1]; exact hI.2.1 4 1 (0, 10) rfl
  refine pj_X_of (fun r h => pj_R_to (G0, 1, [(0, .ref 1), (1, .int i)], [.int i], 0, 0) 1 2 (fun _ => rfl) h) ?_
  cases b2 : pj_c1 .lt i 0 with
  | true =>
    have ub2 := pj_u0_ltT b2
    refine pj_X_of (fun r h => pj_R_ifT 15 rfl rfl b2 h) ?_
    exfalso
    omega
  | false =>
    have ub2 := pj_u0_ltF b2
    refine pj_X_of (fun r h => pj_R_ifF rfl b2 h) ?_
    refine pj_X_of (fun r h => pj_R_to (G0, 6, [(0, .ref 1), (1, .int i)], [.ref 1, .int i], 0, 0) 6 3 (fun _ => rfl) h) ?_
    refine pj_X_of (fun r h => pj_T_gr hI rfl rfl rfl h) ?_
    refine pj_X_of (fun r h => pj_T_gi hI rfl rfl h) ?_
    show pj_X _ _ G0 12 [(0, .ref 1), (1, .int i)] [.int (pj_fi G0 4 1), .int i] _
    refine pj_X_eqi (show pj_fi G0 4 1 = y1 from hy1.symm) ?_
    cases b3 : pj_c1 .lt i y1 with
    | true =>
      have ub3 := pj_u_ltT b3
      refine pj_X_of (fun r h => pj_R_icT 26 rfl rfl b3 h) ?_
      refine pj_X_of (fun r h => pj_R_to (G0, 27, [(0, .ref 1), (1, .int i)], [.ref 1], 0, 0) 27 2 (fun _ => rfl) h) ?_
      refine pj_X_of (fun r h => pj_T_gr hI rfl rfl rfl h) ?_
      refine pj_X_of (fun r h => pj_T_gr hI rfl rfl rfl h) ?_
      refine pj_X_of (fun r h => pj_R_to (G0, 34, [(0, .ref 1), (1, .int i)], [.int i, .ref 5], 0, 0) 34 2 (fun _ => rfl) h) ?_
      refine pj_X_ll hI rfl rfl (by omega) (by omega) (fun w4 => ?_)
      show pj_X _ _ G0 35 [(0, .ref 1), (1, .int i)] [.long w4] _
      have q5 : (pj_fi G0 4 1).toInt = y1.toInt := by rw [show pj_fi G0 4 1 = y1 from hy1.symm]
      exact pj_X_rt rfl rfl ⟨_, rfl, rfl⟩
    | false =>
      have ub3 := pj_u_ltF b3
      refine pj_X_of (fun r h => pj_R_icF rfl b3 h) ?_
      exfalso
      omega
