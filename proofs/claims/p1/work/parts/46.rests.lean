/-! PRICES: rests, by hand -/
def pj_gnf (own oth c : Int32) : Int32 := match decide (own ≤ oth), decide (oth ≤ own) with
  | false, _ => Int32.ofInt 0
  | true, false => own - c
  | true, true => (own - c) / Int32.ofInt 2
def pj_erf (own oth c : Int32) : Int32 := match decide (oth ≤ own), decide (¬ own = oth) with
  | false, _ => own - c
  | true, true => Int32.ofInt 0
  | true, false => (own - c) / Int32.ofInt 2
theorem pj_gainE (G : pj_G) (own oth c : Int32) : pj_E (pj_cx 1) 166 [.int own, .int oth, .int c] G (some (.int (pj_gnf own oth c)), G, 0, 0) := by
  refine pj_E_R (M := pj_m166) rfl rfl (Nat.le_of_ble_eq_true rfl) ?_
  show pj_R _ _ _ _ (G, 0, [(0, .int own), (1, .int oth), (2, .int c)], [], 0, 0) _
  unfold pj_gnf
  cases h1 : decide (own ≤ oth) with
  | false =>
    refine pj_R_to (G, 2, [(0, .int own), (1, .int oth), (2, .int c)], [.int oth, .int own], 0, 0) 2 3 (fun _ => rfl) ?_
    refine pj_R_icF rfl h1 ?_
    refine pj_R_to (G, 6, [(0, .int own), (1, .int oth), (2, .int c)], [.int (Int32.ofInt 0)], 0, 0) 6 2 (fun _ => rfl) ?_
    exact pj_R_rt rfl rfl
  | true =>
    cases h2 : decide (oth ≤ own) with
    | false =>
      refine pj_R_to (G, 2, [(0, .int own), (1, .int oth), (2, .int c)], [.int oth, .int own], 0, 0) 2 3 (fun _ => rfl) ?_
      refine pj_R_icT 7 rfl rfl h1 ?_
      refine pj_R_to (G, 9, [(0, .int own), (1, .int oth), (2, .int c)], [.int oth, .int own], 0, 0) 9 3 (fun _ => rfl) ?_
      refine pj_R_icF rfl h2 ?_
      refine pj_R_to (G, 23, [(0, .int own), (1, .int oth), (2, .int c)], [.int (own - c)], 0, 0) 23 5 (fun _ => rfl) ?_
      exact pj_R_rt rfl rfl
    | true =>
      refine pj_R_to (G, 2, [(0, .int own), (1, .int oth), (2, .int c)], [.int oth, .int own], 0, 0) 2 3 (fun _ => rfl) ?_
      refine pj_R_icT 7 rfl rfl h1 ?_
      refine pj_R_to (G, 9, [(0, .int own), (1, .int oth), (2, .int c)], [.int oth, .int own], 0, 0) 9 3 (fun _ => rfl) ?_
      refine pj_R_icT 18 rfl rfl h2 ?_
      refine pj_R_to (G, 22, [(0, .int own), (1, .int oth), (2, .int c)], [.int (Int32.ofInt 2), .int (own - c)], 0, 0) 22 5 (fun _ => rfl) ?_
      refine pj_R_dv rfl (by decide) ?_
      exact pj_R_rt rfl rfl
theorem pj_earnsE (G : pj_G) (own oth c : Int32) : pj_E (pj_cx 1) 274 [.int own, .int oth, .int c] G (some (.int (pj_erf own oth c)), G, 0, 0) := by
  refine pj_E_R (M := pj_m274) rfl rfl (Nat.le_of_ble_eq_true rfl) ?_
  show pj_R _ _ _ _ (G, 0, [(0, .int own), (1, .int oth), (2, .int c)], [], 0, 0) _
  unfold pj_erf
  cases h1 : decide (oth ≤ own) with
  | false =>
    refine pj_R_to (G, 2, [(0, .int own), (1, .int oth), (2, .int c)], [.int oth, .int own], 0, 0) 2 3 (fun _ => rfl) ?_
    refine pj_R_icF rfl h1 ?_
    refine pj_R_to (G, 25, [(0, .int own), (1, .int oth), (2, .int c)], [.int (own - c)], 0, 0) 25 5 (fun _ => rfl) ?_
    exact pj_R_rt rfl rfl
  | true =>
    cases h2 : decide (¬ own = oth) with
    | true =>
      refine pj_R_to (G, 2, [(0, .int own), (1, .int oth), (2, .int c)], [.int oth, .int own], 0, 0) 2 3 (fun _ => rfl) ?_
      refine pj_R_icT 11 rfl rfl h1 ?_
      refine pj_R_to (G, 13, [(0, .int own), (1, .int oth), (2, .int c)], [.int oth, .int own], 0, 0) 13 3 (fun _ => rfl) ?_
      refine pj_R_icT 24 rfl rfl h2 ?_
      refine pj_R_to (G, 25, [(0, .int own), (1, .int oth), (2, .int c)], [.int (Int32.ofInt 0)], 0, 0) 25 2 (fun _ => rfl) ?_
      exact pj_R_rt rfl rfl
    | false =>
      refine pj_R_to (G, 2, [(0, .int own), (1, .int oth), (2, .int c)], [.int oth, .int own], 0, 0) 2 3 (fun _ => rfl) ?_
      refine pj_R_icT 11 rfl rfl h1 ?_
      refine pj_R_to (G, 13, [(0, .int own), (1, .int oth), (2, .int c)], [.int oth, .int own], 0, 0) 13 3 (fun _ => rfl) ?_
      refine pj_R_icF rfl h2 ?_
      refine pj_R_to (G, 20, [(0, .int own), (1, .int oth), (2, .int c)], [.int (Int32.ofInt 2), .int (own - c)], 0, 0) 20 5 (fun _ => rfl) ?_
      refine pj_R_dv rfl (by decide) ?_
      refine pj_R_to (G, 25, [(0, .int own), (1, .int oth), (2, .int c)], [.int ((own - c) / (Int32.ofInt 2))], 0, 0) 25 2 (fun _ => rfl) ?_
      exact pj_R_rt rfl rfl
def pj_kpr (own oth c : Int32) : Nat → Int32 → Bool
  | 0, _ => true
  | d + 1, p => match decide (pj_gnf p oth c ≤ pj_gnf own oth c) with
    | true => pj_kpr own oth c d (p + Int32.ofInt 1)
    | false => false
def pj_ir (own oth c : Int32) : Nat → Int32 → Bool → Bool
  | 0, _, b => b
  | d + 1, p, b => pj_ir own oth c d (p + Int32.ofInt 1) (b && !decide (pj_erf own oth c < pj_erf p oth c))
theorem pj_l9 : ((Int8.ofInt 9).toInt32).toInt = 9 := by decide
theorem pj_inc9 {k : Int32} (h : k.toInt ≤ 9) : (k + Int32.ofInt 1).toInt = k.toInt + 1 := pj_inc24 (by omega)
theorem pj_gt9T {p : Int32} (h : 10 - p.toInt = (0 : Nat)) : pj_c1 .gt p (Int8.ofInt 9).toInt32 = true := by
  simp only [pj_c1, decide_eq_true_eq, Int32.lt_iff_toInt_lt, pj_l9]
  omega
theorem pj_gt9F {p : Int32} {d : Nat} (h : 10 - p.toInt = (d + 1 : Nat)) : pj_c1 .gt p (Int8.ofInt 9).toInt32 = false := by
  simp only [pj_c1, decide_eq_false_iff_not, Int32.lt_iff_toInt_lt, pj_l9]
  omega
theorem pj_nx9 {p : Int32} {d : Nat} (h : 10 - p.toInt = (d + 1 : Nat)) : 10 - (p + Int32.ofInt 1).toInt = (d : Nat) := by
  rw [pj_inc9 (by omega)]
  omega
theorem pj_kp_loop (G : pj_G) (own oth c : Int32) : ∀ (d : Nat) (p : Int32), 10 - p.toInt = (d : Nat) → pj_R (pj_cx 1) 0 pj_x0 pj_m167 (G, 2, [(3, .int p), (0, .int own), (1, .int oth), (2, .int c)], [], 0, 0) (some (.int (pj_b2 (pj_kpr own oth c d p))), G, 0, 0)
  | 0, p, hd => by
    refine pj_R_to (G, 5, [(3, .int p), (0, .int own), (1, .int oth), (2, .int c)], [.int ((Int8.ofInt 9).toInt32), .int p], 0, 0) 5 3 (fun _ => rfl) ?_
    refine pj_R_icT 31 rfl rfl (pj_gt9T hd) ?_
    refine pj_R_to (G, 32, [(3, .int p), (0, .int own), (1, .int oth), (2, .int c)], [.int (Int32.ofInt 1)], 0, 0) 32 2 (fun _ => rfl) ?_
    exact pj_R_rt rfl rfl
  | d + 1, p, hd => by
    have ih := pj_kp_loop G own oth c d (p + Int32.ofInt 1) (pj_nx9 hd)
    show pj_R _ _ _ _ _ (some (.int (pj_b2 (match decide (pj_gnf p oth c ≤ pj_gnf own oth c) with
      | true => pj_kpr own oth c d (p + Int32.ofInt 1)
      | false => false))), G, 0, 0)
    cases h1 : decide (pj_gnf p oth c ≤ pj_gnf own oth c) with
    | true =>
      refine pj_R_to (G, 5, [(3, .int p), (0, .int own), (1, .int oth), (2, .int c)], [.int ((Int8.ofInt 9).toInt32), .int p], 0, 0) 5 3 (fun _ => rfl) ?_
      refine pj_R_icF rfl (pj_gt9F hd) ?_
      refine pj_R_to (G, 11, [(3, .int p), (0, .int own), (1, .int oth), (2, .int c)], [.int c, .int oth, .int p], 0, 0) 11 4 (fun _ => rfl) ?_
      refine pj_R_ca (pj_cx_mon _) (vs := [.int p, .int oth, .int c]) (S2 := [.int (pj_gnf p oth c)]) rfl (fun _ => rfl) ⟨Nat.le_of_ble_eq_true rfl, Nat.le_of_ble_eq_true rfl, rfl⟩ ⟨rfl, rfl, rfl⟩ (pj_gainE G p oth c) ?_
      show pj_R _ _ _ _ (G, 14, [(3, .int p), (0, .int own), (1, .int oth), (2, .int c)], [.int (pj_gnf p oth c)], 0, 0) _
      refine pj_R_to (G, 17, [(3, .int p), (0, .int own), (1, .int oth), (2, .int c)], [.int c, .int oth, .int own, .int (pj_gnf p oth c)], 0, 0) 17 4 (fun _ => rfl) ?_
      refine pj_R_ca (pj_cx_mon _) (vs := [.int own, .int oth, .int c]) (S2 := [.int (pj_gnf own oth c), .int (pj_gnf p oth c)]) rfl (fun _ => rfl) ⟨Nat.le_of_ble_eq_true rfl, Nat.le_of_ble_eq_true rfl, rfl⟩ ⟨rfl, rfl, rfl⟩ (pj_gainE G own oth c) ?_
      show pj_R _ _ _ _ (G, 20, [(3, .int p), (0, .int own), (1, .int oth), (2, .int c)], [.int (pj_gnf own oth c), .int (pj_gnf p oth c)], 0, 0) _
      refine pj_R_icT 25 rfl rfl h1 ?_
      refine pj_R_to (G, 2, [(3, .int (p + Int32.ofInt 1)), (0, .int own), (1, .int oth), (2, .int c)], [], 0, 0) 2 3 (fun _ => rfl) ?_
      exact ih
    | false =>
      refine pj_R_to (G, 5, [(3, .int p), (0, .int own), (1, .int oth), (2, .int c)], [.int ((Int8.ofInt 9).toInt32), .int p], 0, 0) 5 3 (fun _ => rfl) ?_
      refine pj_R_icF rfl (pj_gt9F hd) ?_
      refine pj_R_to (G, 11, [(3, .int p), (0, .int own), (1, .int oth), (2, .int c)], [.int c, .int oth, .int p], 0, 0) 11 4 (fun _ => rfl) ?_
      refine pj_R_ca (pj_cx_mon _) (vs := [.int p, .int oth, .int c]) (S2 := [.int (pj_gnf p oth c)]) rfl (fun _ => rfl) ⟨Nat.le_of_ble_eq_true rfl, Nat.le_of_ble_eq_true rfl, rfl⟩ ⟨rfl, rfl, rfl⟩ (pj_gainE G p oth c) ?_
      show pj_R _ _ _ _ (G, 14, [(3, .int p), (0, .int own), (1, .int oth), (2, .int c)], [.int (pj_gnf p oth c)], 0, 0) _
      refine pj_R_to (G, 17, [(3, .int p), (0, .int own), (1, .int oth), (2, .int c)], [.int c, .int oth, .int own, .int (pj_gnf p oth c)], 0, 0) 17 4 (fun _ => rfl) ?_
      refine pj_R_ca (pj_cx_mon _) (vs := [.int own, .int oth, .int c]) (S2 := [.int (pj_gnf own oth c), .int (pj_gnf p oth c)]) rfl (fun _ => rfl) ⟨Nat.le_of_ble_eq_true rfl, Nat.le_of_ble_eq_true rfl, rfl⟩ ⟨rfl, rfl, rfl⟩ (pj_gainE G own oth c) ?_
      show pj_R _ _ _ _ (G, 20, [(3, .int p), (0, .int own), (1, .int oth), (2, .int c)], [.int (pj_gnf own oth c), .int (pj_gnf p oth c)], 0, 0) _
      refine pj_R_icF rfl h1 ?_
      refine pj_R_to (G, 24, [(3, .int p), (0, .int own), (1, .int oth), (2, .int c)], [.int (Int32.ofInt 0)], 0, 0) 24 2 (fun _ => rfl) ?_
      exact pj_R_rt rfl rfl
theorem pj_keepsE (G : pj_G) (own oth c : Int32) : pj_E (pj_cx 2) 167 [.int own, .int oth, .int c] G (some (.int (pj_b2 (pj_kpr own oth c 9 (Int32.ofInt 1)))), G, 0, 0) := by
  refine pj_E_R (M := pj_m167) rfl rfl (Nat.le_of_ble_eq_true rfl) ?_
  show pj_R _ _ _ _ (G, 0, [(0, .int own), (1, .int oth), (2, .int c)], [], 0, 0) _
  refine pj_R_to (G, 2, [(3, .int (Int32.ofInt 1)), (0, .int own), (1, .int oth), (2, .int c)], [], 0, 0) 2 3 (fun _ => rfl) ?_
  exact pj_kp_loop G own oth c 9 _ (by decide)
theorem pj_ir_loop (G : pj_G) (own oth c : Int32) : ∀ (d : Nat) (p : Int32) (b : Bool), 10 - p.toInt = (d : Nat) → pj_R (pj_cx 1) 0 pj_x0 pj_m275 (G, 5, [(4, .int p), (3, .int (pj_b2 b)), (0, .int own), (1, .int oth), (2, .int c)], [], 0, 0) (some (.int (pj_b2 (pj_ir own oth c d p b))), G, 0, 0)
  | 0, p, b, hd => by
    cases b
    case false =>
      refine pj_R_to (G, 9, [(4, .int p), (3, .int (pj_b2 false)), (0, .int own), (1, .int oth), (2, .int c)], [.int ((Int8.ofInt 9).toInt32), .int p], 0, 0) 9 3 (fun _ => rfl) ?_
      refine pj_R_icT 44 rfl rfl (pj_gt9T hd) ?_
      refine pj_R_to (G, 45, [(4, .int p), (3, .int (pj_b2 false)), (0, .int own), (1, .int oth), (2, .int c)], [.int (pj_b2 false)], 0, 0) 45 2 (fun _ => rfl) ?_
      exact pj_R_rt rfl rfl
    case true =>
      refine pj_R_to (G, 9, [(4, .int p), (3, .int (pj_b2 true)), (0, .int own), (1, .int oth), (2, .int c)], [.int ((Int8.ofInt 9).toInt32), .int p], 0, 0) 9 3 (fun _ => rfl) ?_
      refine pj_R_icT 44 rfl rfl (pj_gt9T hd) ?_
      refine pj_R_to (G, 45, [(4, .int p), (3, .int (pj_b2 true)), (0, .int own), (1, .int oth), (2, .int c)], [.int (pj_b2 true)], 0, 0) 45 2 (fun _ => rfl) ?_
      exact pj_R_rt rfl rfl
  | d + 1, p, b, hd => by
    have ih := fun b => pj_ir_loop G own oth c d (p + Int32.ofInt 1) b (pj_nx9 hd)
    show pj_R _ _ _ _ _ (some (.int (pj_b2 (pj_ir own oth c d (p + Int32.ofInt 1) (b && !decide (pj_erf own oth c < pj_erf p oth c))))), G, 0, 0)
    cases b
    case false =>
      refine pj_R_to (G, 9, [(4, .int p), (3, .int (pj_b2 false)), (0, .int own), (1, .int oth), (2, .int c)], [.int ((Int8.ofInt 9).toInt32), .int p], 0, 0) 9 3 (fun _ => rfl) ?_
      refine pj_R_icF rfl (pj_gt9F hd) ?_
      refine pj_R_to (G, 13, [(4, .int p), (3, .int (pj_b2 false)), (0, .int own), (1, .int oth), (2, .int c)], [.int (pj_b2 false)], 0, 0) 13 2 (fun _ => rfl) ?_
      refine pj_R_ifT 36 rfl rfl (by decide) ?_
      refine pj_R_to (G, 5, [(4, .int (p + Int32.ofInt 1)), (3, .int (Int32.ofInt 0)), (0, .int own), (1, .int oth), (2, .int c)], [], 0, 0) 5 5 (fun _ => rfl) ?_
      exact ih false
    case true =>
      cases h1 : decide (pj_erf own oth c < pj_erf p oth c) with
      | true =>
        refine pj_R_to (G, 9, [(4, .int p), (3, .int (pj_b2 true)), (0, .int own), (1, .int oth), (2, .int c)], [.int ((Int8.ofInt 9).toInt32), .int p], 0, 0) 9 3 (fun _ => rfl) ?_
        refine pj_R_icF rfl (pj_gt9F hd) ?_
        refine pj_R_to (G, 13, [(4, .int p), (3, .int (pj_b2 true)), (0, .int own), (1, .int oth), (2, .int c)], [.int (pj_b2 true)], 0, 0) 13 2 (fun _ => rfl) ?_
        refine pj_R_ifF rfl (by decide) ?_
        refine pj_R_to (G, 20, [(4, .int p), (3, .int (pj_b2 true)), (0, .int own), (1, .int oth), (2, .int c)], [.int c, .int oth, .int p], 0, 0) 20 4 (fun _ => rfl) ?_
        refine pj_R_ca (pj_cx_mon _) (vs := [.int p, .int oth, .int c]) (S2 := [.int (pj_erf p oth c)]) rfl (fun _ => rfl) ⟨Nat.le_of_ble_eq_true rfl, Nat.le_of_ble_eq_true rfl, rfl⟩ ⟨rfl, rfl, rfl⟩ (pj_earnsE G p oth c) ?_
        show pj_R _ _ _ _ (G, 23, [(4, .int p), (3, .int (pj_b2 true)), (0, .int own), (1, .int oth), (2, .int c)], [.int (pj_erf p oth c)], 0, 0) _
        refine pj_R_to (G, 26, [(4, .int p), (3, .int (pj_b2 true)), (0, .int own), (1, .int oth), (2, .int c)], [.int c, .int oth, .int own, .int (pj_erf p oth c)], 0, 0) 26 4 (fun _ => rfl) ?_
        refine pj_R_ca (pj_cx_mon _) (vs := [.int own, .int oth, .int c]) (S2 := [.int (pj_erf own oth c), .int (pj_erf p oth c)]) rfl (fun _ => rfl) ⟨Nat.le_of_ble_eq_true rfl, Nat.le_of_ble_eq_true rfl, rfl⟩ ⟨rfl, rfl, rfl⟩ (pj_earnsE G own oth c) ?_
        show pj_R _ _ _ _ (G, 29, [(4, .int p), (3, .int (pj_b2 true)), (0, .int own), (1, .int oth), (2, .int c)], [.int (pj_erf own oth c), .int (pj_erf p oth c)], 0, 0) _
        refine pj_R_icT 36 rfl rfl h1 ?_
        refine pj_R_to (G, 5, [(4, .int (p + Int32.ofInt 1)), (3, .int (Int32.ofInt 0)), (0, .int own), (1, .int oth), (2, .int c)], [], 0, 0) 5 5 (fun _ => rfl) ?_
        exact ih false
      | false =>
        refine pj_R_to (G, 9, [(4, .int p), (3, .int (pj_b2 true)), (0, .int own), (1, .int oth), (2, .int c)], [.int ((Int8.ofInt 9).toInt32), .int p], 0, 0) 9 3 (fun _ => rfl) ?_
        refine pj_R_icF rfl (pj_gt9F hd) ?_
        refine pj_R_to (G, 13, [(4, .int p), (3, .int (pj_b2 true)), (0, .int own), (1, .int oth), (2, .int c)], [.int (pj_b2 true)], 0, 0) 13 2 (fun _ => rfl) ?_
        refine pj_R_ifF rfl (by decide) ?_
        refine pj_R_to (G, 20, [(4, .int p), (3, .int (pj_b2 true)), (0, .int own), (1, .int oth), (2, .int c)], [.int c, .int oth, .int p], 0, 0) 20 4 (fun _ => rfl) ?_
        refine pj_R_ca (pj_cx_mon _) (vs := [.int p, .int oth, .int c]) (S2 := [.int (pj_erf p oth c)]) rfl (fun _ => rfl) ⟨Nat.le_of_ble_eq_true rfl, Nat.le_of_ble_eq_true rfl, rfl⟩ ⟨rfl, rfl, rfl⟩ (pj_earnsE G p oth c) ?_
        show pj_R _ _ _ _ (G, 23, [(4, .int p), (3, .int (pj_b2 true)), (0, .int own), (1, .int oth), (2, .int c)], [.int (pj_erf p oth c)], 0, 0) _
        refine pj_R_to (G, 26, [(4, .int p), (3, .int (pj_b2 true)), (0, .int own), (1, .int oth), (2, .int c)], [.int c, .int oth, .int own, .int (pj_erf p oth c)], 0, 0) 26 4 (fun _ => rfl) ?_
        refine pj_R_ca (pj_cx_mon _) (vs := [.int own, .int oth, .int c]) (S2 := [.int (pj_erf own oth c), .int (pj_erf p oth c)]) rfl (fun _ => rfl) ⟨Nat.le_of_ble_eq_true rfl, Nat.le_of_ble_eq_true rfl, rfl⟩ ⟨rfl, rfl, rfl⟩ (pj_earnsE G own oth c) ?_
        show pj_R _ _ _ _ (G, 29, [(4, .int p), (3, .int (pj_b2 true)), (0, .int own), (1, .int oth), (2, .int c)], [.int (pj_erf own oth c), .int (pj_erf p oth c)], 0, 0) _
        refine pj_R_icF rfl h1 ?_
        refine pj_R_to (G, 5, [(4, .int (p + Int32.ofInt 1)), (3, .int (Int32.ofInt 1)), (0, .int own), (1, .int oth), (2, .int c)], [], 0, 0) 5 6 (fun _ => rfl) ?_
        exact ih true
theorem pj_isRestE (G : pj_G) (own oth c : Int32) : pj_E (pj_cx 2) 275 [.int own, .int oth, .int c] G (some (.int (pj_b2 (pj_ir own oth c 9 (Int32.ofInt 1) true))), G, 0, 0) := by
  refine pj_E_R (M := pj_m275) rfl rfl (Nat.le_of_ble_eq_true rfl) ?_
  show pj_R _ _ _ _ (G, 0, [(0, .int own), (1, .int oth), (2, .int c)], [], 0, 0) _
  refine pj_R_to (G, 5, [(4, .int (Int32.ofInt 1)), (3, .int (Int32.ofInt 1)), (0, .int own), (1, .int oth), (2, .int c)], [], 0, 0) 5 5 (fun _ => rfl) ?_
  exact pj_ir_loop G own oth c 9 _ true (by decide)
def pj_inn (ok : Int32 → Int32 → Bool) (i : Int32) : Nat → Int32 → Int32 → Int32
  | 0, _, n => n
  | d + 1, j, n => pj_inn ok i d (j + Int32.ofInt 1) (match ok i j with
    | true => n + Int32.ofInt 1
    | false => n)
def pj_out (ok : Int32 → Int32 → Bool) : Nat → Int32 → Int32 → Int32
  | 0, _, n => n
  | d + 1, i, n => pj_out ok d (i + Int32.ofInt 1) (pj_inn ok i 9 (Int32.ofInt 1) n)
def pj_okXr (c i j : Int32) : Bool := pj_kpr i j c 9 (Int32.ofInt 1) && pj_kpr j i c 9 (Int32.ofInt 1)
def pj_okMr (c i j : Int32) : Bool := pj_ir i j c 9 (Int32.ofInt 1) true && pj_ir j i c 9 (Int32.ofInt 1) true
set_option maxRecDepth 100000 in
theorem pj_kra : ∀ c : Nat, c < 10 → ∀ i : Nat, i < 9 → ∀ j : Nat, j < 9 → pj_kpr (Int32.ofInt (i + 1)) (Int32.ofInt (j + 1)) (Int32.ofInt c) 9 (Int32.ofInt 1) = pj_ir (Int32.ofInt (i + 1)) (Int32.ofInt (j + 1)) (Int32.ofInt c) 9 (Int32.ofInt 1) true := by decide +kernel
theorem pj_kr {c i j : Int32} (hc : 0 ≤ c.toInt ∧ c.toInt ≤ 9) (hi : 1 ≤ i.toInt ∧ i.toInt ≤ 9) (hj : 1 ≤ j.toInt ∧ j.toInt ≤ 9) : pj_kpr i j c 9 (Int32.ofInt 1) = pj_ir i j c 9 (Int32.ofInt 1) true := by
  have e := pj_kra c.toInt.toNat (by omega) (i.toInt - 1).toNat (by omega) (j.toInt - 1).toNat (by omega)
  have e1 : ((c.toInt.toNat : Nat) : Int) = c.toInt := by omega
  have e2 : (((i.toInt - 1).toNat : Nat) : Int) + 1 = i.toInt := by omega
  have e3 : (((j.toInt - 1).toNat : Nat) : Int) + 1 = j.toInt := by omega
  rw [e1, e2, e3, Int32.ofInt_toInt, Int32.ofInt_toInt, Int32.ofInt_toInt] at e
  exact e
theorem pj_ok_eq {c i j : Int32} (hc : 0 ≤ c.toInt ∧ c.toInt ≤ 9) (hi : 1 ≤ i.toInt ∧ i.toInt ≤ 9) (hj : 1 ≤ j.toInt ∧ j.toInt ≤ 9) : pj_okXr c i j = pj_okMr c i j := by
  unfold pj_okXr pj_okMr
  rw [pj_kr hc hi hj, pj_kr hc hj hi]
theorem pj_inn_eq {c i : Int32} (hc : 0 ≤ c.toInt ∧ c.toInt ≤ 9) (hi : 1 ≤ i.toInt ∧ i.toInt ≤ 9) : ∀ (d : Nat) (j n : Int32), 10 - j.toInt = (d : Nat) → 1 ≤ j.toInt → pj_inn (pj_okXr c) i d j n = pj_inn (pj_okMr c) i d j n
  | 0, j, n, _, _ => rfl
  | d + 1, j, n, hd, hj => by
    show pj_inn (pj_okXr c) i d (j + Int32.ofInt 1) (match pj_okXr c i j with
      | true => n + Int32.ofInt 1
      | false => n) = pj_inn (pj_okMr c) i d (j + Int32.ofInt 1) (match pj_okMr c i j with
      | true => n + Int32.ofInt 1
      | false => n)
    rw [pj_ok_eq hc hi ⟨hj, by omega⟩]
    exact pj_inn_eq hc hi d _ _ (pj_nx9 hd) (by rw [pj_inc9 (by omega)]; omega)
theorem pj_out_eq {c : Int32} (hc : 0 ≤ c.toInt ∧ c.toInt ≤ 9) : ∀ (d : Nat) (i n : Int32), 10 - i.toInt = (d : Nat) → 1 ≤ i.toInt → pj_out (pj_okXr c) d i n = pj_out (pj_okMr c) d i n
  | 0, i, n, _, _ => rfl
  | d + 1, i, n, hd, hi => by
    show pj_out (pj_okXr c) d (i + Int32.ofInt 1) (pj_inn (pj_okXr c) i 9 (Int32.ofInt 1) n) = pj_out (pj_okMr c) d (i + Int32.ofInt 1) (pj_inn (pj_okMr c) i 9 (Int32.ofInt 1) n)
    rw [pj_inn_eq hc ⟨hi, by omega⟩ 9 (Int32.ofInt 1) n (by decide) (by decide)]
    exact pj_out_eq hc d _ _ (pj_nx9 hd) (by rw [pj_inc9 (by omega)]; omega)
theorem pj_tellTwoR (G : pj_G) (o nn : Nat) (s : Int32) (v u : Int64) (h : pj_row G o nn s) : ∃ G', pj_E (pj_cx 2) 56 [.ref o, .long v, .long u] G (none, G', 0, 0) ∧ (∃ s', pj_row G' o nn s') ∧ pj_same G G' [o, nn] := by
  obtain ⟨G1, e1, r1, s1⟩ := pj_clear G o nn s h
  obtain ⟨G2, e2, r2, s2⟩ := pj_addE G1 o nn _ v r1 (by decide) (by decide)
  obtain ⟨G3, e3, r3, s3⟩ := pj_addE G2 o nn _ u r2 (by decide) (by decide)
  refine ⟨G3, ?_, ⟨_, r3⟩, pj_same_t s1 (pj_same_t s2 s3)⟩
  refine pj_E_R (M := pj_m56) rfl rfl (Nat.le_of_ble_eq_true rfl) ?_
  show pj_R _ _ _ _ (G, 0, [(0, .ref o), (1, .long v), (3, .long u)], [], 0, 0) _
  refine pj_R_to (G, 1, [(0, .ref o), (1, .long v), (3, .long u)], [.ref o], 0, 0) 1 2 (fun _ => rfl) ?_
  refine pj_R_ca (pj_cx_mon _) (vs := [.ref o]) (S2 := []) rfl (fun _ => rfl) ⟨Nat.le_of_ble_eq_true rfl, Nat.le_of_ble_eq_true rfl, pj_rcvI h.1⟩ ⟨rfl, rfl, rfl⟩ e1 ?_
  show pj_R _ _ _ _ (G1, 4, [(0, .ref o), (1, .long v), (3, .long u)], [], 0, 0) _
  refine pj_R_to (G1, 6, [(0, .ref o), (1, .long v), (3, .long u)], [.long v, .ref o], 0, 0) 6 3 (fun _ => rfl) ?_
  refine pj_R_ca (pj_cx_mon _) (vs := [.ref o, .long v]) (S2 := []) rfl (fun _ => rfl) ⟨Nat.le_of_ble_eq_true rfl, Nat.le_of_ble_eq_true rfl, pj_rcvI r1.1⟩ ⟨rfl, rfl, rfl⟩ e2 ?_
  show pj_R _ _ _ _ (G2, 9, [(0, .ref o), (1, .long v), (3, .long u)], [], 0, 0) _
  refine pj_R_to (G2, 11, [(0, .ref o), (1, .long v), (3, .long u)], [.long u, .ref o], 0, 0) 11 3 (fun _ => rfl) ?_
  refine pj_R_ca (pj_cx_mon _) (vs := [.ref o, .long u]) (S2 := []) rfl (fun _ => rfl) ⟨Nat.le_of_ble_eq_true rfl, Nat.le_of_ble_eq_true rfl, pj_rcvI r2.1⟩ ⟨rfl, rfl, rfl⟩ e3 ?_
  show pj_R _ _ _ _ (G3, 14, [(0, .ref o), (1, .long v), (3, .long u)], [], 0, 0) _
  exact pj_R_rt rfl rfl
theorem pj_rsX_in (ax o nn : Nat) (fx : List Value) (c i : Int32) (ho : fx[1]? = some (.ref o)) (hax : ax ∉ [o, nn]) : ∀ (d : Nat) (j n : Int32) (G : pj_G), 10 - j.toInt = (d : Nat) → pj_get G ax = some (.inr (11, fx)) → (∃ s, pj_row G o nn s) → ∃ (G' : pj_G) (j' : Int32), (∃ s, pj_row G' o nn s) ∧ pj_same G G' [o, nn] ∧ ∀ r, pj_R (pj_cx 2) 0 pj_x0 pj_m154 (G', 23, [(3, .int (i + Int32.ofInt 1)), (4, .int j'), (2, .int (pj_inn (pj_okXr c) i d j n)), (0, .ref ax), (1, .int c)], [], 0, 0) r → pj_R (pj_cx 2) 0 pj_x0 pj_m154 (G, 32, [(4, .int j), (3, .int i), (2, .int n), (0, .ref ax), (1, .int c)], [], 0, 0) r ∧ pj_R (pj_cx 2) 0 pj_x0 pj_m154 (G, 32, [(4, .int j), (2, .int n), (3, .int i), (0, .ref ax), (1, .int c)], [], 0, 0) r
  | 0, j, n, G, hd, hx, hr => by
    refine ⟨G, j, hr, fun b hb => rfl, fun r h => ⟨?_, ?_⟩⟩
    · refine pj_R_to (G, 36, [(4, .int j), (3, .int i), (2, .int n), (0, .ref ax), (1, .int c)], [.int ((Int8.ofInt 9).toInt32), .int j], 0, 0) 36 3 (fun _ => rfl) ?_
      refine pj_R_icT 84 rfl rfl (pj_gt9T hd) ?_
      refine pj_R_to (G, 23, [(3, .int (i + Int32.ofInt 1)), (4, .int j), (2, .int n), (0, .ref ax), (1, .int c)], [], 0, 0) 23 3 (fun _ => rfl) ?_
      exact h
    · refine pj_R_to (G, 36, [(4, .int j), (2, .int n), (3, .int i), (0, .ref ax), (1, .int c)], [.int ((Int8.ofInt 9).toInt32), .int j], 0, 0) 36 3 (fun _ => rfl) ?_
      refine pj_R_icT 84 rfl rfl (pj_gt9T hd) ?_
      refine pj_R_to (G, 23, [(3, .int (i + Int32.ofInt 1)), (4, .int j), (2, .int n), (0, .ref ax), (1, .int c)], [], 0, 0) 23 3 (fun _ => rfl) ?_
      exact h
  | d + 1, j, n, G, hd, hx, hr => by
    have ih := fun n G hx hr => pj_rsX_in ax o nn fx c i ho hax d (j + Int32.ofInt 1) n G (pj_nx9 hd) hx hr
    show ∃ (G' : pj_G) (j' : Int32), _ ∧ _ ∧ ∀ r, pj_R (pj_cx 2) 0 pj_x0 pj_m154 (G', 23, [(3, .int (i + Int32.ofInt 1)), (4, .int j'), (2, .int (pj_inn (pj_okXr c) i d (j + Int32.ofInt 1) (match pj_okXr c i j with | true => n + Int32.ofInt 1 | false => n))), (0, .ref ax), (1, .int c)], [], 0, 0) r → _
    cases h1 : pj_kpr i j c 9 (Int32.ofInt 1) with
    | false =>
      have e : pj_okXr c i j = false := by
        unfold pj_okXr
        rw [h1, Bool.false_and]
      rw [e]
      obtain ⟨G', j', k1, k2, k3⟩ := ih n G hx hr
      refine ⟨G', j', k1, k2, fun r h => ⟨?_, ?_⟩⟩
      · refine pj_R_to (G, 36, [(4, .int j), (3, .int i), (2, .int n), (0, .ref ax), (1, .int c)], [.int ((Int8.ofInt 9).toInt32), .int j], 0, 0) 36 3 (fun _ => rfl) ?_
        refine pj_R_icF rfl (pj_gt9F hd) ?_
        refine pj_R_to (G, 43, [(4, .int j), (3, .int i), (2, .int n), (0, .ref ax), (1, .int c)], [.int c, .int j, .int i], 0, 0) 43 4 (fun _ => rfl) ?_
        refine pj_R_ca (pj_cx_mon _) (vs := [.int i, .int j, .int c]) (S2 := [.int (pj_b2 false)]) rfl (fun _ => rfl) ⟨Nat.le_of_ble_eq_true rfl, Nat.le_of_ble_eq_true rfl, rfl⟩ ⟨rfl, rfl, rfl⟩ (by have e := pj_keepsE G i j c; rw [h1] at e; exact e) ?_
        show pj_R _ _ _ _ (G, 46, [(4, .int j), (3, .int i), (2, .int n), (0, .ref ax), (1, .int c)], [.int (pj_b2 false)], 0, 0) _
        refine pj_R_ifT 78 rfl rfl (by decide) ?_
        refine pj_R_to (G, 32, [(4, .int (j + Int32.ofInt 1)), (3, .int i), (2, .int n), (0, .ref ax), (1, .int c)], [], 0, 0) 32 3 (fun _ => rfl) ?_
        exact (k3 r h).1
      · refine pj_R_to (G, 36, [(4, .int j), (2, .int n), (3, .int i), (0, .ref ax), (1, .int c)], [.int ((Int8.ofInt 9).toInt32), .int j], 0, 0) 36 3 (fun _ => rfl) ?_
        refine pj_R_icF rfl (pj_gt9F hd) ?_
        refine pj_R_to (G, 43, [(4, .int j), (2, .int n), (3, .int i), (0, .ref ax), (1, .int c)], [.int c, .int j, .int i], 0, 0) 43 4 (fun _ => rfl) ?_
        refine pj_R_ca (pj_cx_mon _) (vs := [.int i, .int j, .int c]) (S2 := [.int (pj_b2 false)]) rfl (fun _ => rfl) ⟨Nat.le_of_ble_eq_true rfl, Nat.le_of_ble_eq_true rfl, rfl⟩ ⟨rfl, rfl, rfl⟩ (by have e := pj_keepsE G i j c; rw [h1] at e; exact e) ?_
        show pj_R _ _ _ _ (G, 46, [(4, .int j), (2, .int n), (3, .int i), (0, .ref ax), (1, .int c)], [.int (pj_b2 false)], 0, 0) _
        refine pj_R_ifT 78 rfl rfl (by decide) ?_
        refine pj_R_to (G, 32, [(4, .int (j + Int32.ofInt 1)), (2, .int n), (3, .int i), (0, .ref ax), (1, .int c)], [], 0, 0) 32 3 (fun _ => rfl) ?_
        exact (k3 r h).2
    | true =>
      cases h2 : pj_kpr j i c 9 (Int32.ofInt 1) with
      | false =>
        have e : pj_okXr c i j = false := by
          unfold pj_okXr
          rw [h1, h2, Bool.and_false]
        rw [e]
        obtain ⟨G', j', k1, k2, k3⟩ := ih n G hx hr
        refine ⟨G', j', k1, k2, fun r h => ⟨?_, ?_⟩⟩
        · refine pj_R_to (G, 36, [(4, .int j), (3, .int i), (2, .int n), (0, .ref ax), (1, .int c)], [.int ((Int8.ofInt 9).toInt32), .int j], 0, 0) 36 3 (fun _ => rfl) ?_
          refine pj_R_icF rfl (pj_gt9F hd) ?_
          refine pj_R_to (G, 43, [(4, .int j), (3, .int i), (2, .int n), (0, .ref ax), (1, .int c)], [.int c, .int j, .int i], 0, 0) 43 4 (fun _ => rfl) ?_
          refine pj_R_ca (pj_cx_mon _) (vs := [.int i, .int j, .int c]) (S2 := [.int (pj_b2 true)]) rfl (fun _ => rfl) ⟨Nat.le_of_ble_eq_true rfl, Nat.le_of_ble_eq_true rfl, rfl⟩ ⟨rfl, rfl, rfl⟩ (by have e := pj_keepsE G i j c; rw [h1] at e; exact e) ?_
          show pj_R _ _ _ _ (G, 46, [(4, .int j), (3, .int i), (2, .int n), (0, .ref ax), (1, .int c)], [.int (pj_b2 true)], 0, 0) _
          refine pj_R_ifF rfl (by decide) ?_
          refine pj_R_to (G, 53, [(4, .int j), (3, .int i), (2, .int n), (0, .ref ax), (1, .int c)], [.int c, .int i, .int j], 0, 0) 53 4 (fun _ => rfl) ?_
          refine pj_R_ca (pj_cx_mon _) (vs := [.int j, .int i, .int c]) (S2 := [.int (pj_b2 false)]) rfl (fun _ => rfl) ⟨Nat.le_of_ble_eq_true rfl, Nat.le_of_ble_eq_true rfl, rfl⟩ ⟨rfl, rfl, rfl⟩ (by have e := pj_keepsE G j i c; rw [h2] at e; exact e) ?_
          show pj_R _ _ _ _ (G, 56, [(4, .int j), (3, .int i), (2, .int n), (0, .ref ax), (1, .int c)], [.int (pj_b2 false)], 0, 0) _
          refine pj_R_ifT 78 rfl rfl (by decide) ?_
          refine pj_R_to (G, 32, [(4, .int (j + Int32.ofInt 1)), (3, .int i), (2, .int n), (0, .ref ax), (1, .int c)], [], 0, 0) 32 3 (fun _ => rfl) ?_
          exact (k3 r h).1
        · refine pj_R_to (G, 36, [(4, .int j), (2, .int n), (3, .int i), (0, .ref ax), (1, .int c)], [.int ((Int8.ofInt 9).toInt32), .int j], 0, 0) 36 3 (fun _ => rfl) ?_
          refine pj_R_icF rfl (pj_gt9F hd) ?_
          refine pj_R_to (G, 43, [(4, .int j), (2, .int n), (3, .int i), (0, .ref ax), (1, .int c)], [.int c, .int j, .int i], 0, 0) 43 4 (fun _ => rfl) ?_
          refine pj_R_ca (pj_cx_mon _) (vs := [.int i, .int j, .int c]) (S2 := [.int (pj_b2 true)]) rfl (fun _ => rfl) ⟨Nat.le_of_ble_eq_true rfl, Nat.le_of_ble_eq_true rfl, rfl⟩ ⟨rfl, rfl, rfl⟩ (by have e := pj_keepsE G i j c; rw [h1] at e; exact e) ?_
          show pj_R _ _ _ _ (G, 46, [(4, .int j), (2, .int n), (3, .int i), (0, .ref ax), (1, .int c)], [.int (pj_b2 true)], 0, 0) _
          refine pj_R_ifF rfl (by decide) ?_
          refine pj_R_to (G, 53, [(4, .int j), (2, .int n), (3, .int i), (0, .ref ax), (1, .int c)], [.int c, .int i, .int j], 0, 0) 53 4 (fun _ => rfl) ?_
          refine pj_R_ca (pj_cx_mon _) (vs := [.int j, .int i, .int c]) (S2 := [.int (pj_b2 false)]) rfl (fun _ => rfl) ⟨Nat.le_of_ble_eq_true rfl, Nat.le_of_ble_eq_true rfl, rfl⟩ ⟨rfl, rfl, rfl⟩ (by have e := pj_keepsE G j i c; rw [h2] at e; exact e) ?_
          show pj_R _ _ _ _ (G, 56, [(4, .int j), (2, .int n), (3, .int i), (0, .ref ax), (1, .int c)], [.int (pj_b2 false)], 0, 0) _
          refine pj_R_ifT 78 rfl rfl (by decide) ?_
          refine pj_R_to (G, 32, [(4, .int (j + Int32.ofInt 1)), (2, .int n), (3, .int i), (0, .ref ax), (1, .int c)], [], 0, 0) 32 3 (fun _ => rfl) ?_
          exact (k3 r h).2
      | true =>
        have e : pj_okXr c i j = true := by
          unfold pj_okXr
          rw [h1, h2, Bool.and_true]
        rw [e]
        by_cases hn : n = 0
        · obtain ⟨s0, hr0⟩ := hr
          obtain ⟨G1, t1, t2, t3⟩ := pj_tellTwoR G o nn s0 i.toInt64 j.toInt64 hr0
          obtain ⟨G', j', k1, k2, k3⟩ := ih (n + Int32.ofInt 1) G1 (by rw [t3 ax hax, hx]) t2
          refine ⟨G', j', k1, pj_same_t t3 k2, fun r h => ⟨?_, ?_⟩⟩
          · refine pj_R_to (G, 36, [(4, .int j), (3, .int i), (2, .int n), (0, .ref ax), (1, .int c)], [.int ((Int8.ofInt 9).toInt32), .int j], 0, 0) 36 3 (fun _ => rfl) ?_
            refine pj_R_icF rfl (pj_gt9F hd) ?_
            refine pj_R_to (G, 43, [(4, .int j), (3, .int i), (2, .int n), (0, .ref ax), (1, .int c)], [.int c, .int j, .int i], 0, 0) 43 4 (fun _ => rfl) ?_
            refine pj_R_ca (pj_cx_mon _) (vs := [.int i, .int j, .int c]) (S2 := [.int (pj_b2 true)]) rfl (fun _ => rfl) ⟨Nat.le_of_ble_eq_true rfl, Nat.le_of_ble_eq_true rfl, rfl⟩ ⟨rfl, rfl, rfl⟩ (by have e := pj_keepsE G i j c; rw [h1] at e; exact e) ?_
            show pj_R _ _ _ _ (G, 46, [(4, .int j), (3, .int i), (2, .int n), (0, .ref ax), (1, .int c)], [.int (pj_b2 true)], 0, 0) _
            refine pj_R_ifF rfl (by decide) ?_
            refine pj_R_to (G, 53, [(4, .int j), (3, .int i), (2, .int n), (0, .ref ax), (1, .int c)], [.int c, .int i, .int j], 0, 0) 53 4 (fun _ => rfl) ?_
            refine pj_R_ca (pj_cx_mon _) (vs := [.int j, .int i, .int c]) (S2 := [.int (pj_b2 true)]) rfl (fun _ => rfl) ⟨Nat.le_of_ble_eq_true rfl, Nat.le_of_ble_eq_true rfl, rfl⟩ ⟨rfl, rfl, rfl⟩ (by have e := pj_keepsE G j i c; rw [h2] at e; exact e) ?_
            show pj_R _ _ _ _ (G, 56, [(4, .int j), (3, .int i), (2, .int n), (0, .ref ax), (1, .int c)], [.int (pj_b2 true)], 0, 0) _
            refine pj_R_ifF rfl (by decide) ?_
            refine pj_R_to (G, 60, [(4, .int j), (3, .int i), (2, .int n), (0, .ref ax), (1, .int c)], [.int n], 0, 0) 60 2 (fun _ => rfl) ?_
            refine pj_R_ifF rfl (decide_eq_false (fun z => z hn)) ?_
            refine pj_R_to (G, 64, [(4, .int j), (3, .int i), (2, .int n), (0, .ref ax), (1, .int c)], [.ref ax], 0, 0) 64 2 (fun _ => rfl) ?_
            refine pj_R_gf rfl hx ho ?_
            refine pj_R_to (G, 72, [(4, .int j), (3, .int i), (2, .int n), (0, .ref ax), (1, .int c)], [.long j.toInt64, .long i.toInt64, .ref o], 0, 0) 72 5 (fun _ => rfl) ?_
            refine pj_R_ca (pj_cx_mon _) (vs := [.ref o, .long i.toInt64, .long j.toInt64]) (S2 := []) rfl (fun _ => rfl) ⟨Nat.le_of_ble_eq_true rfl, Nat.le_of_ble_eq_true rfl, pj_rcvI hr0.1⟩ ⟨rfl, rfl, rfl⟩ t1 ?_
            show pj_R _ _ _ _ (G1, 75, [(4, .int j), (3, .int i), (2, .int n), (0, .ref ax), (1, .int c)], [], 0, 0) _
            refine pj_R_to (G1, 32, [(4, .int (j + Int32.ofInt 1)), (2, .int (n + Int32.ofInt 1)), (3, .int i), (0, .ref ax), (1, .int c)], [], 0, 0) 32 4 (fun _ => rfl) ?_
            exact (k3 r h).2
          · refine pj_R_to (G, 36, [(4, .int j), (2, .int n), (3, .int i), (0, .ref ax), (1, .int c)], [.int ((Int8.ofInt 9).toInt32), .int j], 0, 0) 36 3 (fun _ => rfl) ?_
            refine pj_R_icF rfl (pj_gt9F hd) ?_
            refine pj_R_to (G, 43, [(4, .int j), (2, .int n), (3, .int i), (0, .ref ax), (1, .int c)], [.int c, .int j, .int i], 0, 0) 43 4 (fun _ => rfl) ?_
            refine pj_R_ca (pj_cx_mon _) (vs := [.int i, .int j, .int c]) (S2 := [.int (pj_b2 true)]) rfl (fun _ => rfl) ⟨Nat.le_of_ble_eq_true rfl, Nat.le_of_ble_eq_true rfl, rfl⟩ ⟨rfl, rfl, rfl⟩ (by have e := pj_keepsE G i j c; rw [h1] at e; exact e) ?_
            show pj_R _ _ _ _ (G, 46, [(4, .int j), (2, .int n), (3, .int i), (0, .ref ax), (1, .int c)], [.int (pj_b2 true)], 0, 0) _
            refine pj_R_ifF rfl (by decide) ?_
            refine pj_R_to (G, 53, [(4, .int j), (2, .int n), (3, .int i), (0, .ref ax), (1, .int c)], [.int c, .int i, .int j], 0, 0) 53 4 (fun _ => rfl) ?_
            refine pj_R_ca (pj_cx_mon _) (vs := [.int j, .int i, .int c]) (S2 := [.int (pj_b2 true)]) rfl (fun _ => rfl) ⟨Nat.le_of_ble_eq_true rfl, Nat.le_of_ble_eq_true rfl, rfl⟩ ⟨rfl, rfl, rfl⟩ (by have e := pj_keepsE G j i c; rw [h2] at e; exact e) ?_
            show pj_R _ _ _ _ (G, 56, [(4, .int j), (2, .int n), (3, .int i), (0, .ref ax), (1, .int c)], [.int (pj_b2 true)], 0, 0) _
            refine pj_R_ifF rfl (by decide) ?_
            refine pj_R_to (G, 60, [(4, .int j), (2, .int n), (3, .int i), (0, .ref ax), (1, .int c)], [.int n], 0, 0) 60 2 (fun _ => rfl) ?_
            refine pj_R_ifF rfl (decide_eq_false (fun z => z hn)) ?_
            refine pj_R_to (G, 64, [(4, .int j), (2, .int n), (3, .int i), (0, .ref ax), (1, .int c)], [.ref ax], 0, 0) 64 2 (fun _ => rfl) ?_
            refine pj_R_gf rfl hx ho ?_
            refine pj_R_to (G, 72, [(4, .int j), (2, .int n), (3, .int i), (0, .ref ax), (1, .int c)], [.long j.toInt64, .long i.toInt64, .ref o], 0, 0) 72 5 (fun _ => rfl) ?_
            refine pj_R_ca (pj_cx_mon _) (vs := [.ref o, .long i.toInt64, .long j.toInt64]) (S2 := []) rfl (fun _ => rfl) ⟨Nat.le_of_ble_eq_true rfl, Nat.le_of_ble_eq_true rfl, pj_rcvI hr0.1⟩ ⟨rfl, rfl, rfl⟩ t1 ?_
            show pj_R _ _ _ _ (G1, 75, [(4, .int j), (2, .int n), (3, .int i), (0, .ref ax), (1, .int c)], [], 0, 0) _
            refine pj_R_to (G1, 32, [(4, .int (j + Int32.ofInt 1)), (2, .int (n + Int32.ofInt 1)), (3, .int i), (0, .ref ax), (1, .int c)], [], 0, 0) 32 4 (fun _ => rfl) ?_
            exact (k3 r h).2
        · obtain ⟨G', j', k1, k2, k3⟩ := ih (n + Int32.ofInt 1) G hx hr
          refine ⟨G', j', k1, k2, fun r h => ⟨?_, ?_⟩⟩
          · refine pj_R_to (G, 36, [(4, .int j), (3, .int i), (2, .int n), (0, .ref ax), (1, .int c)], [.int ((Int8.ofInt 9).toInt32), .int j], 0, 0) 36 3 (fun _ => rfl) ?_
            refine pj_R_icF rfl (pj_gt9F hd) ?_
            refine pj_R_to (G, 43, [(4, .int j), (3, .int i), (2, .int n), (0, .ref ax), (1, .int c)], [.int c, .int j, .int i], 0, 0) 43 4 (fun _ => rfl) ?_
            refine pj_R_ca (pj_cx_mon _) (vs := [.int i, .int j, .int c]) (S2 := [.int (pj_b2 true)]) rfl (fun _ => rfl) ⟨Nat.le_of_ble_eq_true rfl, Nat.le_of_ble_eq_true rfl, rfl⟩ ⟨rfl, rfl, rfl⟩ (by have e := pj_keepsE G i j c; rw [h1] at e; exact e) ?_
            show pj_R _ _ _ _ (G, 46, [(4, .int j), (3, .int i), (2, .int n), (0, .ref ax), (1, .int c)], [.int (pj_b2 true)], 0, 0) _
            refine pj_R_ifF rfl (by decide) ?_
            refine pj_R_to (G, 53, [(4, .int j), (3, .int i), (2, .int n), (0, .ref ax), (1, .int c)], [.int c, .int i, .int j], 0, 0) 53 4 (fun _ => rfl) ?_
            refine pj_R_ca (pj_cx_mon _) (vs := [.int j, .int i, .int c]) (S2 := [.int (pj_b2 true)]) rfl (fun _ => rfl) ⟨Nat.le_of_ble_eq_true rfl, Nat.le_of_ble_eq_true rfl, rfl⟩ ⟨rfl, rfl, rfl⟩ (by have e := pj_keepsE G j i c; rw [h2] at e; exact e) ?_
            show pj_R _ _ _ _ (G, 56, [(4, .int j), (3, .int i), (2, .int n), (0, .ref ax), (1, .int c)], [.int (pj_b2 true)], 0, 0) _
            refine pj_R_ifF rfl (by decide) ?_
            refine pj_R_to (G, 60, [(4, .int j), (3, .int i), (2, .int n), (0, .ref ax), (1, .int c)], [.int n], 0, 0) 60 2 (fun _ => rfl) ?_
            refine pj_R_ifT 75 rfl rfl (decide_eq_true hn) ?_
            refine pj_R_to (G, 32, [(4, .int (j + Int32.ofInt 1)), (2, .int (n + Int32.ofInt 1)), (3, .int i), (0, .ref ax), (1, .int c)], [], 0, 0) 32 4 (fun _ => rfl) ?_
            exact (k3 r h).2
          · refine pj_R_to (G, 36, [(4, .int j), (2, .int n), (3, .int i), (0, .ref ax), (1, .int c)], [.int ((Int8.ofInt 9).toInt32), .int j], 0, 0) 36 3 (fun _ => rfl) ?_
            refine pj_R_icF rfl (pj_gt9F hd) ?_
            refine pj_R_to (G, 43, [(4, .int j), (2, .int n), (3, .int i), (0, .ref ax), (1, .int c)], [.int c, .int j, .int i], 0, 0) 43 4 (fun _ => rfl) ?_
            refine pj_R_ca (pj_cx_mon _) (vs := [.int i, .int j, .int c]) (S2 := [.int (pj_b2 true)]) rfl (fun _ => rfl) ⟨Nat.le_of_ble_eq_true rfl, Nat.le_of_ble_eq_true rfl, rfl⟩ ⟨rfl, rfl, rfl⟩ (by have e := pj_keepsE G i j c; rw [h1] at e; exact e) ?_
            show pj_R _ _ _ _ (G, 46, [(4, .int j), (2, .int n), (3, .int i), (0, .ref ax), (1, .int c)], [.int (pj_b2 true)], 0, 0) _
            refine pj_R_ifF rfl (by decide) ?_
            refine pj_R_to (G, 53, [(4, .int j), (2, .int n), (3, .int i), (0, .ref ax), (1, .int c)], [.int c, .int i, .int j], 0, 0) 53 4 (fun _ => rfl) ?_
            refine pj_R_ca (pj_cx_mon _) (vs := [.int j, .int i, .int c]) (S2 := [.int (pj_b2 true)]) rfl (fun _ => rfl) ⟨Nat.le_of_ble_eq_true rfl, Nat.le_of_ble_eq_true rfl, rfl⟩ ⟨rfl, rfl, rfl⟩ (by have e := pj_keepsE G j i c; rw [h2] at e; exact e) ?_
            show pj_R _ _ _ _ (G, 56, [(4, .int j), (2, .int n), (3, .int i), (0, .ref ax), (1, .int c)], [.int (pj_b2 true)], 0, 0) _
            refine pj_R_ifF rfl (by decide) ?_
            refine pj_R_to (G, 60, [(4, .int j), (2, .int n), (3, .int i), (0, .ref ax), (1, .int c)], [.int n], 0, 0) 60 2 (fun _ => rfl) ?_
            refine pj_R_ifT 75 rfl rfl (decide_eq_true hn) ?_
            refine pj_R_to (G, 32, [(4, .int (j + Int32.ofInt 1)), (2, .int (n + Int32.ofInt 1)), (3, .int i), (0, .ref ax), (1, .int c)], [], 0, 0) 32 4 (fun _ => rfl) ?_
            exact (k3 r h).2
theorem pj_rsX_out (ax o nn : Nat) (fx : List Value) (c : Int32) (ho : fx[1]? = some (.ref o)) (hax : ax ∉ [o, nn]) : ∀ (d : Nat) (i n : Int32) (G : pj_G), 10 - i.toInt = (d : Nat) → pj_get G ax = some (.inr (11, fx)) → (∃ s, pj_row G o nn s) → ∃ G' : pj_G, pj_same G G' [o, nn] ∧ pj_R (pj_cx 2) 0 pj_x0 pj_m154 (G, 23, [(3, .int i), (2, .int n), (0, .ref ax), (1, .int c)], [], 0, 0) (some (.int (pj_out (pj_okXr c) d i n)), G', 0, 0) ∧ ∀ j, pj_R (pj_cx 2) 0 pj_x0 pj_m154 (G, 23, [(3, .int i), (4, .int j), (2, .int n), (0, .ref ax), (1, .int c)], [], 0, 0) (some (.int (pj_out (pj_okXr c) d i n)), G', 0, 0)
  | 0, i, n, G, hd, hx, hr => by
    refine ⟨G, fun b hb => rfl, ?_, fun j => ?_⟩
    · refine pj_R_to (G, 26, [(3, .int i), (2, .int n), (0, .ref ax), (1, .int c)], [.int ((Int8.ofInt 9).toInt32), .int i], 0, 0) 26 3 (fun _ => rfl) ?_
      refine pj_R_icT 90 rfl rfl (pj_gt9T hd) ?_
      refine pj_R_to (G, 91, [(3, .int i), (2, .int n), (0, .ref ax), (1, .int c)], [.int n], 0, 0) 91 2 (fun _ => rfl) ?_
      exact pj_R_rt rfl rfl
    · refine pj_R_to (G, 26, [(3, .int i), (4, .int j), (2, .int n), (0, .ref ax), (1, .int c)], [.int ((Int8.ofInt 9).toInt32), .int i], 0, 0) 26 3 (fun _ => rfl) ?_
      refine pj_R_icT 90 rfl rfl (pj_gt9T hd) ?_
      refine pj_R_to (G, 91, [(3, .int i), (4, .int j), (2, .int n), (0, .ref ax), (1, .int c)], [.int n], 0, 0) 91 2 (fun _ => rfl) ?_
      exact pj_R_rt rfl rfl
  | d + 1, i, n, G, hd, hx, hr => by
    obtain ⟨G1, j1, k1, k2, k3⟩ := pj_rsX_in ax o nn fx c i ho hax 9 (Int32.ofInt 1) n G (by decide) hx hr
    obtain ⟨G', m1, m2, m3⟩ := pj_rsX_out ax o nn fx c ho hax d (i + Int32.ofInt 1) (pj_inn (pj_okXr c) i 9 (Int32.ofInt 1) n) G1 (pj_nx9 hd) (by rw [k2 ax hax, hx]) k1
    have k4 := (k3 _ (m3 j1)).1
    refine ⟨G', pj_same_t k2 m1, ?_, fun j => ?_⟩
    · refine pj_R_to (G, 26, [(3, .int i), (2, .int n), (0, .ref ax), (1, .int c)], [.int ((Int8.ofInt 9).toInt32), .int i], 0, 0) 26 3 (fun _ => rfl) ?_
      refine pj_R_icF rfl (pj_gt9F hd) ?_
      refine pj_R_to (G, 32, [(4, .int (Int32.ofInt 1)), (3, .int i), (2, .int n), (0, .ref ax), (1, .int c)], [], 0, 0) 32 3 (fun _ => rfl) ?_
      exact k4
    · refine pj_R_to (G, 26, [(3, .int i), (4, .int j), (2, .int n), (0, .ref ax), (1, .int c)], [.int ((Int8.ofInt 9).toInt32), .int i], 0, 0) 26 3 (fun _ => rfl) ?_
      refine pj_R_icF rfl (pj_gt9F hd) ?_
      refine pj_R_to (G, 32, [(4, .int (Int32.ofInt 1)), (3, .int i), (2, .int n), (0, .ref ax), (1, .int c)], [], 0, 0) 32 3 (fun _ => rfl) ?_
      exact k4
theorem pj_restsX (G : pj_G) (ax o nn : Nat) (fx : List Value) (s0 c : Int32) (hx : pj_get G ax = some (.inr (11, fx))) (ho : fx[1]? = some (.ref o)) (hr : pj_row G o nn s0) (hc : 0 ≤ c.toInt ∧ c.toInt ≤ 9) : ∃ G', pj_E (pj_cx 3) 154 [.ref ax, .int c] G (some (.int (pj_out (pj_okXr c) 9 (Int32.ofInt 1) (Int32.ofInt 0))), G', 0, 0) ∧ pj_same G G' [o, nn] := by
  have hax : ax ∉ [o, nn] := fun hm => by
    obtain ⟨h1, f, h2⟩ := hr
    rcases List.mem_cons.mp hm with e | hm
    · rw [e, h1] at hx
      cases hx
    · rcases List.mem_cons.mp hm with e | hm
      · rw [e, h2] at hx
        cases hx
      · cases hm
  obtain ⟨G1, e1, r1, s1⟩ := pj_clear G o nn s0 hr
  obtain ⟨G2, m1, m2, m3⟩ := pj_rsX_out ax o nn fx c ho hax 9 (Int32.ofInt 1) (Int32.ofInt 0) G1 (by decide) (by rw [s1 ax hax, hx]) ⟨_, r1⟩
  refine ⟨G2, ?_, pj_same_t s1 m1⟩
  refine pj_E_R (M := pj_m154) rfl rfl (Nat.le_of_ble_eq_true rfl) ?_
  show pj_R _ _ _ _ (G, 0, [(0, .ref ax), (1, .int c)], [], 0, 0) _
  refine pj_R_to (G, 1, [(0, .ref ax), (1, .int c)], [.int c], 0, 0) 1 2 (fun _ => rfl) ?_
  refine pj_R_ifF rfl (by simp only [pj_c1, decide_eq_false_iff_not, Int32.lt_iff_toInt_lt, pj_lz0]; omega) ?_
  refine pj_R_to (G, 7, [(0, .ref ax), (1, .int c)], [.int ((Int8.ofInt 9).toInt32), .int c], 0, 0) 7 3 (fun _ => rfl) ?_
  refine pj_R_icT 12 rfl rfl (by simp only [pj_c1, decide_eq_true_eq, Int32.le_iff_toInt_le, pj_l9]; omega) ?_
  refine pj_R_to (G, 13, [(0, .ref ax), (1, .int c)], [.ref ax], 0, 0) 13 2 (fun _ => rfl) ?_
  refine pj_R_gf rfl hx ho ?_
  refine pj_R_ca (pj_cx_mon _) (vs := [.ref o]) (S2 := []) rfl (fun _ => rfl) ⟨Nat.le_of_ble_eq_true rfl, Nat.le_of_ble_eq_true rfl, pj_rcvI hr.1⟩ ⟨rfl, rfl, rfl⟩ (pj_E_up (by decide) e1) ?_
  show pj_R _ _ _ _ (G1, 19, [(0, .ref ax), (1, .int c)], [], 0, 0) _
  refine pj_R_to (G1, 23, [(3, .int (Int32.ofInt 1)), (2, .int (Int32.ofInt 0)), (0, .ref ax), (1, .int c)], [], 0, 0) 23 5 (fun _ => rfl) ?_
  exact m2
