def pj_b2 (b : Bool) : Int32 := match b with
  | true => Int32.ofInt 1
  | false => Int32.ofInt 0
theorem pj_inc24 {k : Int32} (h : k.toInt ≤ 24) : (k + Int32.ofInt 1).toInt = k.toInt + 1 := pj_inc (n := Int32.ofInt 25) (by
  have e : (Int32.ofInt 25).toInt = 25 := by decide
  omega)
/-! PRICES: rests, by hand -/
def pj_gnf (own oth c : Int32) : Int32 := match decide (own ≤ oth), decide (oth ≤ own) with
  | false, _ => Int32.ofInt 0
  | true, false => own - c
  | true, true => (own - c) / Int32.ofInt 2
def pj_erf (own oth c : Int32) : Int32 := match decide (oth ≤ own), decide (¬ own = oth) with
  | false, _ => own - c
  | true, true => Int32.ofInt 0
  | true, false => (own - c) / Int32.ofInt 2
theorem pj_gainE (G : pj_G) (own oth c : Int32) : pj_E (pj_cx 1) 166 [.int own, .int oth, .int c] G (some (.int (pj_gnf own oth c)), G, 0, 0) := by
  refine pj_E_R (M := pj_m166) rfl rfl (Nat.le_of_ble_eq_true rfl) ?_
  show pj_R _ _ _ _ (G, 0, [(0, .int own), (1, .int oth), (2, .int c)], [], 0, 0) _
  unfold pj_gnf
  cases h1 : decide (own ≤ oth) with
  | false =>
    refine pj_R_to (G, 2, [(0, .int own), (1, .int oth), (2, .int c)], [.int oth, .int own], 0, 0) 2 3 (fun _ => rfl) ?_
    refine pj_R_icF rfl h1 ?_
    refine pj_R_to (G, 6, [(0, .int own), (1, .int oth), (2, .int c)], [.int (Int32.ofInt 0)], 0, 0) 6 2 (fun _ => rfl) ?_
    exact pj_R_rt rfl rfl
  | true =>
    cases h2 : decide (oth ≤ own) with
    | false =>
      refine pj_R_to (G, 2, [(0, .int own), (1, .int oth), (2, .int c)], [.int oth, .int own], 0, 0) 2 3 (fun _ => rfl) ?_
      refine pj_R_icT 7 rfl rfl h1 ?_
      refine pj_R_to (G, 9, [(0, .int own), (1, .int oth), (2, .int c)], [.int oth, .int own], 0, 0) 9 3 (fun _ => rfl) ?_
      refine pj_R_icF rfl h2 ?_
      refine pj_R_to (G, 23, [(0, .int own), (1, .int oth), (2, .int c)], [.int (own - c)], 0, 0) 23 5 (fun _ => rfl) ?_
      exact pj_R_rt rfl rfl
    | true =>
      refine pj_R_to (G, 2, [(0, .int own), (1, .int oth), (2, .int c)], [.int oth, .int own], 0, 0) 2 3 (fun _ => rfl) ?_
      refine pj_R_icT 7 rfl rfl h1 ?_
      refine pj_R_to (G, 9, [(0, .int own), (1, .int oth), (2, .int c)], [.int oth, .int own], 0, 0) 9 3 (fun _ => rfl) ?_
      refine pj_R_icT 18 rfl rfl h2 ?_
      refine pj_R_to (G, 22, [(0, .int own), (1, .int oth), (2, .int c)], [.int (Int32.ofInt 2), .int (own - c)], 0, 0) 22 5 (fun _ => rfl) ?_
      refine pj_R_dv rfl (by decide) ?_
      exact pj_R_rt rfl rfl
theorem pj_earnsE (G : pj_G) (own oth c : Int32) : pj_E (pj_cx 1) 273 [.int own, .int oth, .int c] G (some (.int (pj_erf own oth c)), G, 0, 0) := by
  refine pj_E_R (M := pj_m273) rfl rfl (Nat.le_of_ble_eq_true rfl) ?_
  show pj_R _ _ _ _ (G, 0, [(0, .int own), (1, .int oth), (2, .int c)], [], 0, 0) _
  unfold pj_erf
  cases h1 : decide (oth ≤ own) with
  | false =>
    refine pj_R_to (G, 2, [(0, .int own), (1, .int oth), (2, .int c)], [.int oth, .int own], 0, 0) 2 3 (fun _ => rfl) ?_
    refine pj_R_icF rfl h1 ?_
    refine pj_R_to (G, 25, [(0, .int own), (1, .int oth), (2, .int c)], [.int (own - c)], 0, 0) 25 5 (fun _ => rfl) ?_
    exact pj_R_rt rfl rfl
  | true =>
    cases h2 : decide (¬ own = oth) with
    | true =>
      refine pj_R_to (G, 2, [(0, .int own), (1, .int oth), (2, .int c)], [.int oth, .int own], 0, 0) 2 3 (fun _ => rfl) ?_
      refine pj_R_icT 11 rfl rfl h1 ?_
      refine pj_R_to (G, 13, [(0, .int own), (1, .int oth), (2, .int c)], [.int oth, .int own], 0, 0) 13 3 (fun _ => rfl) ?_
      refine pj_R_icT 24 rfl rfl h2 ?_
      refine pj_R_to (G, 25, [(0, .int own), (1, .int oth), (2, .int c)], [.int (Int32.ofInt 0)], 0, 0) 25 2 (fun _ => rfl) ?_
      exact pj_R_rt rfl rfl
    | false =>
      refine pj_R_to (G, 2, [(0, .int own), (1, .int oth), (2, .int c)], [.int oth, .int own], 0, 0) 2 3 (fun _ => rfl) ?_
      refine pj_R_icT 11 rfl rfl h1 ?_
      refine pj_R_to (G, 13, [(0, .int own), (1, .int oth), (2, .int c)], [.int oth, .int own], 0, 0) 13 3 (fun _ => rfl) ?_
      refine pj_R_icF rfl h2 ?_
      refine pj_R_to (G, 20, [(0, .int own), (1, .int oth), (2, .int c)], [.int (Int32.ofInt 2), .int (own - c)], 0, 0) 20 5 (fun _ => rfl) ?_
      refine pj_R_dv rfl (by decide) ?_
      refine pj_R_to (G, 25, [(0, .int own), (1, .int oth), (2, .int c)], [.int ((own - c) / (Int32.ofInt 2))], 0, 0) 25 2 (fun _ => rfl) ?_
      exact pj_R_rt rfl rfl
def pj_kpr (own oth c : Int32) : Nat → Int32 → Bool
  | 0, _ => true
  | d + 1, p => match decide (pj_gnf p oth c ≤ pj_gnf own oth c) with
    | true => pj_kpr own oth c d (p + Int32.ofInt 1)
    | false => false
def pj_ir (own oth c : Int32) : Nat → Int32 → Bool → Bool
  | 0, _, b => b
  | d + 1, p, b => pj_ir own oth c d (p + Int32.ofInt 1) (b && !decide (pj_erf own oth c < pj_erf p oth c))
theorem pj_l9 : ((Int8.ofInt 9).toInt32).toInt = 9 := by decide
theorem pj_inc9 {k : Int32} (h : k.toInt ≤ 9) : (k + Int32.ofInt 1).toInt = k.toInt + 1 := pj_inc24 (by omega)
theorem pj_gt9T {p : Int32} (h : 10 - p.toInt = (0 : Nat)) : pj_c1 .gt p (Int8.ofInt 9).toInt32 = true := by
  simp only [pj_c1, decide_eq_true_eq, Int32.lt_iff_toInt_lt, pj_l9]
  omega
theorem pj_gt9F {p : Int32} {d : Nat} (h : 10 - p.toInt = (d + 1 : Nat)) : pj_c1 .gt p (Int8.ofInt 9).toInt32 = false := by
  simp only [pj_c1, decide_eq_false_iff_not, Int32.lt_iff_toInt_lt, pj_l9]
  omega
theorem pj_nx9 {p : Int32} {d : Nat} (h : 10 - p.toInt = (d + 1 : Nat)) : 10 - (p + Int32.ofInt 1).toInt = (d : Nat) := by
  rw [pj_inc9 (by omega)]
  omega
theorem pj_kp_loop (G : pj_G) (own oth c : Int32) : ∀ (d : Nat) (p : Int32), 10 - p.toInt = (d : Nat) → pj_R (pj_cx 1) 0 pj_x0 pj_m167 (G, 2, [(3, .int p), (0, .int own), (1, .int oth), (2, .int c)], [], 0, 0) (some (.int (pj_b2 (pj_kpr own oth c d p))), G, 0, 0)
  | 0, p, hd => by
    refine pj_R_to (G, 5, [(3, .int p), (0, .int own), (1, .int oth), (2, .int c)], [.int ((Int8.ofInt 9).toInt32), .int p], 0, 0) 5 3 (fun _ => rfl) ?_
    refine pj_R_icT 31 rfl rfl (pj_gt9T hd) ?_
    refine pj_R_to (G, 32, [(3, .int p), (0, .int own), (1, .int oth), (2, .int c)], [.int (Int32.ofInt 1)], 0, 0) 32 2 (fun _ => rfl) ?_
    exact pj_R_rt rfl rfl
  | d + 1, p, hd => by
    have ih := pj_kp_loop G own oth c d (p + Int32.ofInt 1) (pj_nx9 hd)
    show pj_R _ _ _ _ _ (some (.int (pj_b2 (match decide (pj_gnf p oth c ≤ pj_gnf own oth c) with
      | true => pj_kpr own oth c d (p + Int32.ofInt 1)
      | false => false))), G, 0, 0)
    cases h1 : decide (pj_gnf p oth c ≤ pj_gnf own oth c) with
    | true =>
      refine pj_R_to (G, 5, [(3, .int p), (0, .int own), (1, .int oth), (2, .int c)], [.int ((Int8.ofInt 9).toInt32), .int p], 0, 0) 5 3 (fun _ => rfl) ?_
      refine pj_R_icF rfl (pj_gt9F hd) ?_
      refine pj_R_to (G, 11, [(3, .int p), (0, .int own), (1, .int oth), (2, .int c)], [.int c, .int oth, .int p], 0, 0) 11 4 (fun _ => rfl) ?_
      refine pj_R_ca (pj_cx_mon _) (vs := [.int p, .int oth, .int c]) (S2 := [.int (pj_gnf p oth c)]) rfl (fun _ => rfl) ⟨Nat.le_of_ble_eq_true rfl, Nat.le_of_ble_eq_true rfl, rfl⟩ ⟨rfl, rfl, rfl⟩ (pj_gainE G p oth c) ?_
      show pj_R _ _ _ _ (G, 14, [(3, .int p), (0, .int own), (1, .int oth), (2, .int c)], [.int (pj_gnf p oth c)], 0, 0) _
      refine pj_R_to (G, 17, [(3, .int p), (0, .int own), (1, .int oth), (2, .int c)], [.int c, .int oth, .int own, .int (pj_gnf p oth c)], 0, 0) 17 4 (fun _ => rfl) ?_
      refine pj_R_ca (pj_cx_mon _) (vs := [.int own, .int oth, .int c]) (S2 := [.int (pj_gnf own oth c), .int (pj_gnf p oth c)]) rfl (fun _ => rfl) ⟨Nat.le_of_ble_eq_true rfl, Nat.le_of_ble_eq_true rfl, rfl⟩ ⟨rfl, rfl, rfl⟩ (pj_gainE G own oth c) ?_
      show pj_R _ _ _ _ (G, 20, [(3, .int p), (0, .int own), (1, .int oth), (2, .int c)], [.int (pj_gnf own oth c), .int (pj_gnf p oth c)], 0, 0) _
      refine pj_R_icT 25 rfl rfl h1 ?_
      refine pj_R_to (G, 2, [(3, .int (p + Int32.ofInt 1)), (0, .int own), (1, .int oth), (2, .int c)], [], 0, 0) 2 3 (fun _ => rfl) ?_
      exact ih
    | false =>
      refine pj_R_to (G, 5, [(3, .int p), (0, .int own), (1, .int oth), (2, .int c)], [.int ((Int8.ofInt 9).toInt32), .int p], 0, 0) 5 3 (fun _ => rfl) ?_
      refine pj_R_icF rfl (pj_gt9F hd) ?_
      refine pj_R_to (G, 11, [(3, .int p), (0, .int own), (1, .int oth), (2, .int c)], [.int c, .int oth, .int p], 0, 0) 11 4 (fun _ => rfl) ?_
      refine pj_R_ca (pj_cx_mon _) (vs := [.int p, .int oth, .int c]) (S2 := [.int (pj_gnf p oth c)]) rfl (fun _ => rfl) ⟨Nat.le_of_ble_eq_true rfl, Nat.le_of_ble_eq_true rfl, rfl⟩ ⟨rfl, rfl, rfl⟩ (pj_gainE G p oth c) ?_
      show pj_R _ _ _ _ (G, 14, [(3, .int p), (0, .int own), (1, .int oth), (2, .int c)], [.int (pj_gnf p oth c)], 0, 0) _
      refine pj_R_to (G, 17, [(3, .int p), (0, .int own), (1, .int oth), (2, .int c)], [.int c, .int oth, .int own, .int (pj_gnf p oth c)], 0, 0) 17 4 (fun _ => rfl) ?_
      refine pj_R_ca (pj_cx_mon _) (vs := [.int own, .int oth, .int c]) (S2 := [.int (pj_gnf own oth c), .int (pj_gnf p oth c)]) rfl (fun _ => rfl) ⟨Nat.le_of_ble_eq_true rfl, Nat.le_of_ble_eq_true rfl, rfl⟩ ⟨rfl, rfl, rfl⟩ (pj_gainE G own oth c) ?_
      show pj_R _ _ _ _ (G, 20, [(3, .int p), (0, .int own), (1, .int oth), (2, .int c)], [.int (pj_gnf own oth c), .int (pj_gnf p oth c)], 0, 0) _
      refine pj_R_icF rfl h1 ?_
      refine pj_R_to (G, 24, [(3, .int p), (0, .int own), (1, .int oth), (2, .int c)], [.int (Int32.ofInt 0)], 0, 0) 24 2 (fun _ => rfl) ?_
      exact pj_R_rt rfl rfl
theorem pj_keepsE (G : pj_G) (own oth c : Int32) : pj_E (pj_cx 2) 167 [.int own, .int oth, .int c] G (some (.int (pj_b2 (pj_kpr own oth c 9 (Int32.ofInt 1)))), G, 0, 0) := by
  refine pj_E_R (M := pj_m167) rfl rfl (Nat.le_of_ble_eq_true rfl) ?_
  show pj_R _ _ _ _ (G, 0, [(0, .int own), (1, .int oth), (2, .int c)], [], 0, 0) _
  refine pj_R_to (G, 2, [(3, .int (Int32.ofInt 1)), (0, .int own), (1, .int oth), (2, .int c)], [], 0, 0) 2 3 (fun _ => rfl) ?_
  exact pj_kp_loop G own oth c 9 _ (by decide)
theorem pj_ir_loop (G : pj_G) (own oth c : Int32) : ∀ (d : Nat) (p : Int32) (b : Bool), 10 - p.toInt = (d : Nat) → pj_R (pj_cx 1) 0 pj_x0 pj_m274 (G, 5, [(4, .int p), (3, .int (pj_b2 b)), (0, .int own), (1, .int oth), (2, .int c)], [], 0, 0) (some (.int (pj_b2 (pj_ir own oth c d p b))), G, 0, 0)
  | 0, p, b, hd => by
    cases b
    case false =>
      refine pj_R_to (G, 9, [(4, .int p), (3, .int (pj_b2 false)), (0, .int own), (1, .int oth), (2, .int c)], [.int ((Int8.ofInt 9).toInt32), .int p], 0, 0) 9 3 (fun _ => rfl) ?_
      refine pj_R_icT 44 rfl rfl (pj_gt9T hd) ?_
      refine pj_R_to (G, 45, [(4, .int p), (3, .int (pj_b2 false)), (0, .int own), (1, .int oth), (2, .int c)], [.int (pj_b2 false)], 0, 0) 45 2 (fun _ => rfl) ?_
      exact pj_R_rt rfl rfl
    case true =>
      refine pj_R_to (G, 9, [(4, .int p), (3, .int (pj_b2 true)), (0, .int own), (1, .int oth), (2, .int c)], [.int ((Int8.ofInt 9).toInt32), .int p], 0, 0) 9 3 (fun _ => rfl) ?_
      refine pj_R_icT 44 rfl rfl (pj_gt9T hd) ?_
      refine pj_R_to (G, 45, [(4, .int p), (3, .int (pj_b2 true)), (0, .int own), (1, .int oth), (2, .int c)], [.int (pj_b2 true)], 0, 0) 45 2 (fun _ => rfl) ?_
      exact pj_R_rt rfl rfl
  | d + 1, p, b, hd => by
    have ih := fun b => pj_ir_loop G own oth c d (p + Int32.ofInt 1) b (pj_nx9 hd)
    show pj_R _ _ _ _ _ (some (.int (pj_b2 (pj_ir own oth c d (p + Int32.ofInt 1) (b && !decide (pj_erf own oth c < pj_erf p oth c))))), G, 0, 0)
    cases b
    case false =>
      refine pj_R_to (G, 9, [(4, .int p), (3, .int (pj_b2 false)), (0, .int own), (1, .int oth), (2, .int c)], [.int ((Int8.ofInt 9).toInt32), .int p], 0, 0) 9 3 (fun _ => rfl) ?_
      refine pj_R_icF rfl (pj_gt9F hd) ?_
      refine pj_R_to (G, 13, [(4, .int p), (3, .int (pj_b2 false)), (0, .int own), (1, .int oth), (2, .int c)], [.int (pj_b2 false)], 0, 0) 13 2 (fun _ => rfl) ?_
      refine pj_R_ifT 36 rfl rfl (by decide) ?_
      refine pj_R_to (G, 5, [(4, .int (p + Int32.ofInt 1)), (3, .int (Int32.ofInt 0)), (0, .int own), (1, .int oth), (2, .int c)], [], 0, 0) 5 5 (fun _ => rfl) ?_
      exact ih false
    case true =>
      cases h1 : decide (pj_erf own oth c < pj_erf p oth c) with
      | true =>
        refine pj_R_to (G, 9, [(4, .int p), (3, .int (pj_b2 true)), (0, .int own), (1, .int oth), (2, .int c)], [.int ((Int8.ofInt 9).toInt32), .int p], 0, 0) 9 3 (fun _ => rfl) ?_
        refine pj_R_icF rfl (pj_gt9F hd) ?_
        refine pj_R_to (G, 13, [(4, .int p), (3, .int (pj_b2 true)), (0, .int own), (1, .int oth), (2, .int c)], [.int (pj_b2 true)], 0, 0) 13 2 (fun _ => rfl) ?_
        refine pj_R_ifF rfl (by decide) ?_
        refine pj_R_to (G, 20, [(4, .int p), (3, .int (pj_b2 true)), (0, .int own), (1, .int oth), (2, .int c)], [.int c, .int oth, .int p], 0, 0) 20 4 (fun _ => rfl) ?_
        refine pj_R_ca (pj_cx_mon _) (vs := [.int p, .int oth, .int c]) (S2 := [.int (pj_erf p oth c)]) rfl (fun _ => rfl) ⟨Nat.le_of_ble_eq_true rfl, Nat.le_of_ble_eq_true rfl, rfl⟩ ⟨rfl, rfl, rfl⟩ (pj_earnsE G p oth c) ?_
        show pj_R _ _ _ _ (G, 23, [(4, .int p), (3, .int (pj_b2 true)), (0, .int own), (1, .int oth), (2, .int c)], [.int (pj_erf p oth c)], 0, 0) _
        refine pj_R_to (G, 26, [(4, .int p), (3, .int (pj_b2 true)), (0, .int own), (1, .int oth), (2, .int c)], [.int c, .int oth, .int own, .int (pj_erf p oth c)], 0, 0) 26 4 (fun _ => rfl) ?_
        refine pj_R_ca (pj_cx_mon _) (vs := [.int own, .int oth, .int c]) (S2 := [.int (pj_erf own oth c), .int (pj_erf p oth c)]) rfl (fun _ => rfl) ⟨Nat.le_of_ble_eq_true rfl, Nat.le_of_ble_eq_true rfl, rfl⟩ ⟨rfl, rfl, rfl⟩ (pj_earnsE G own oth c) ?_
        show pj_R _ _ _ _ (G, 29, [(4, .int p), (3, .int (pj_b2 true)), (0, .int own), (1, .int oth), (2, .int c)], [.int (pj_erf own oth c), .int (pj_erf p oth c)], 0, 0) _
        refine pj_R_icT 36 rfl rfl h1 ?_
        refine pj_R_to (G, 5, [(4, .int (p + Int32.ofInt 1)), (3, .int (Int32.ofInt 0)), (0, .int own), (1, .int oth), (2, .int c)], [], 0, 0) 5 5 (fun _ => rfl) ?_
        exact ih false
      | false =>
        refine pj_R_to (G, 9, [(4, .int p), (3, .int (pj_b2 true)), (0, .int own), (1, .int oth), (2, .int c)], [.int ((Int8.ofInt 9).toInt32), .int p], 0, 0) 9 3 (fun _ => rfl) ?_
        refine pj_R_icF rfl (pj_gt9F hd) ?_
        refine pj_R_to (G, 13, [(4, .int p), (3, .int (pj_b2 true)), (0, .int own), (1, .int oth), (2, .int c)], [.int (pj_b2 true)], 0, 0) 13 2 (fun _ => rfl) ?_
        refine pj_R_ifF rfl (by decide) ?_
        refine pj_R_to (G, 20, [(4, .int p), (3, .int (pj_b2 true)), (0, .int own), (1, .int oth), (2, .int c)], [.int c, .int oth, .int p], 0, 0) 20 4 (fun _ => rfl) ?_
        refine pj_R_ca (pj_cx_mon _) (vs := [.int p, .int oth, .int c]) (S2 := [.int (pj_erf p oth c)]) rfl (fun _ => rfl) ⟨Nat.le_of_ble_eq_true rfl, Nat.le_of_ble_eq_true rfl, rfl⟩ ⟨rfl, rfl, rfl⟩ (pj_earnsE G p oth c) ?_
        show pj_R _ _ _ _ (G, 23, [(4, .int p), (3, .int (pj_b2 true)), (0, .int own), (1, .int oth), (2, .int c)], [.int (pj_erf p oth c)], 0, 0) _
        refine pj_R_to (G, 26, [(4, .int p), (3, .int (pj_b2 true)), (0, .int own), (1, .int oth), (2, .int c)], [.int c, .int oth, .int own, .int (pj_erf p oth c)], 0, 0) 26 4 (fun _ => rfl) ?_
        refine pj_R_ca (pj_cx_mon _) (vs := [.int own, .int oth, .int c]) (S2 := [.int (pj_erf own oth c), .int (pj_erf p oth c)]) rfl (fun _ => rfl) ⟨Nat.le_of_ble_eq_true rfl, Nat.le_of_ble_eq_true rfl, rfl⟩ ⟨rfl, rfl, rfl⟩ (pj_earnsE G own oth c) ?_
        show pj_R _ _ _ _ (G, 29, [(4, .int p), (3, .int (pj_b2 true)), (0, .int own), (1, .int oth), (2, .int c)], [.int (pj_erf own oth c), .int (pj_erf p oth c)], 0, 0) _
        refine pj_R_icF rfl h1 ?_
        refine pj_R_to (G, 5, [(4, .int (p + Int32.ofInt 1)), (3, .int (Int32.ofInt 1)), (0, .int own), (1, .int oth), (2, .int c)], [], 0, 0) 5 6 (fun _ => rfl) ?_
        exact ih true
theorem pj_isRestE (G : pj_G) (own oth c : Int32) : pj_E (pj_cx 2) 274 [.int own, .int oth, .int c] G (some (.int (pj_b2 (pj_ir own oth c 9 (Int32.ofInt 1) true))), G, 0, 0) := by
  refine pj_E_R (M := pj_m274) rfl rfl (Nat.le_of_ble_eq_true rfl) ?_
  show pj_R _ _ _ _ (G, 0, [(0, .int own), (1, .int oth), (2, .int c)], [], 0, 0) _
  refine pj_R_to (G, 5, [(4, .int (Int32.ofInt 1)), (3, .int (Int32.ofInt 1)), (0, .int own), (1, .int oth), (2, .int c)], [], 0, 0) 5 5 (fun _ => rfl) ?_
  exact pj_ir_loop G own oth c 9 _ true (by decide)
def pj_inn (ok : Int32 → Int32 → Bool) (i : Int32) : Nat → Int32 → Int32 → Int32
  | 0, _, n => n
  | d + 1, j, n => pj_inn ok i d (j + Int32.ofInt 1) (match ok i j with
    | true => n + Int32.ofInt 1
    | false => n)
def pj_out (ok : Int32 → Int32 → Bool) : Nat → Int32 → Int32 → Int32
  | 0, _, n => n
  | d + 1, i, n => pj_out ok d (i + Int32.ofInt 1) (pj_inn ok i 9 (Int32.ofInt 1) n)
def pj_okXr (c i j : Int32) : Bool := pj_kpr i j c 9 (Int32.ofInt 1) && pj_kpr j i c 9 (Int32.ofInt 1)
def pj_okMr (c i j : Int32) : Bool := pj_ir i j c 9 (Int32.ofInt 1) true && pj_ir j i c 9 (Int32.ofInt 1) true
set_option maxRecDepth 100000 in
theorem pj_kra : ∀ c : Nat, c < 10 → ∀ i : Nat, i < 9 → ∀ j : Nat, j < 9 → pj_kpr (Int32.ofInt (i + 1)) (Int32.ofInt (j + 1)) (Int32.ofInt c) 9 (Int32.ofInt 1) = pj_ir (Int32.ofInt (i + 1)) (Int32.ofInt (j + 1)) (Int32.ofInt c) 9 (Int32.ofInt 1) true := by decide +kernel
theorem pj_kr {c i j : Int32} (hc : 0 ≤ c.toInt ∧ c.toInt ≤ 9) (hi : 1 ≤ i.toInt ∧ i.toInt ≤ 9) (hj : 1 ≤ j.toInt ∧ j.toInt ≤ 9) : pj_kpr i j c 9 (Int32.ofInt 1) = pj_ir i j c 9 (Int32.ofInt 1) true := by
  have e := pj_kra c.toInt.toNat (by omega) (i.toInt - 1).toNat (by omega) (j.toInt - 1).toNat (by omega)
  have e1 : ((c.toInt.toNat : Nat) : Int) = c.toInt := by omega
  have e2 : (((i.toInt - 1).toNat : Nat) : Int) + 1 = i.toInt := by omega
  have e3 : (((j.toInt - 1).toNat : Nat) : Int) + 1 = j.toInt := by omega
  rw [e1, e2, e3, Int32.ofInt_toInt, Int32.ofInt_toInt, Int32.ofInt_toInt] at e
  exact e
theorem pj_ok_eq {c i j : Int32} (hc : 0 ≤ c.toInt ∧ c.toInt ≤ 9) (hi : 1 ≤ i.toInt ∧ i.toInt ≤ 9) (hj : 1 ≤ j.toInt ∧ j.toInt ≤ 9) : pj_okXr c i j = pj_okMr c i j := by
  unfold pj_okXr pj_okMr
  rw [pj_kr hc hi hj, pj_kr hc hj hi]
theorem pj_inn_eq {c i : Int32} (hc : 0 ≤ c.toInt ∧ c.toInt ≤ 9) (hi : 1 ≤ i.toInt ∧ i.toInt ≤ 9) : ∀ (d : Nat) (j n : Int32), 10 - j.toInt = (d : Nat) → 1 ≤ j.toInt → pj_inn (pj_okXr c) i d j n = pj_inn (pj_okMr c) i d j n
  | 0, j, n, _, _ => rfl
  | d + 1, j, n, hd, hj => by
    show pj_inn (pj_okXr c) i d (j + Int32.ofInt 1) (match pj_okXr c i j with
      | true => n + Int32.ofInt 1
      | false => n) = pj_inn (pj_okMr c) i d (j + Int32.ofInt 1) (match pj_okMr c i j with
      | true => n + Int32.ofInt 1
      | false => n)
    rw [pj_ok_eq hc hi ⟨hj, by omega⟩]
    exact pj_inn_eq hc hi d _ _ (pj_nx9 hd) (by rw [pj_inc9 (by omega)]; omega)
theorem pj_out_eq {c : Int32} (hc : 0 ≤ c.toInt ∧ c.toInt ≤ 9) : ∀ (d : Nat) (i n : Int32), 10 - i.toInt = (d : Nat) → 1 ≤ i.toInt → pj_out (pj_okXr c) d i n = pj_out (pj_okMr c) d i n
  | 0, i, n, _, _ => rfl
  | d + 1, i, n, hd, hi => by
    show pj_out (pj_okXr c) d (i + Int32.ofInt 1) (pj_inn (pj_okXr c) i 9 (Int32.ofInt 1) n) = pj_out (pj_okMr c) d (i + Int32.ofInt 1) (pj_inn (pj_okMr c) i 9 (Int32.ofInt 1) n)
    rw [pj_inn_eq hc ⟨hi, by omega⟩ 9 (Int32.ofInt 1) n (by decide) (by decide)]
    exact pj_out_eq hc d _ _ (pj_nx9 hd) (by rw [pj_inc9 (by omega)]; omega)
theorem pj_b2_t {y : Int32} {b : Bool} (h : y = pj_b2 b) (q : y.toInt ≠ 0) : b = true := by
  cases b with
  | true => rfl
  | false =>
    rw [h] at q
    exact absurd (show (pj_b2 false).toInt = 0 by decide) q
theorem pj_b2_f {y : Int32} {b : Bool} (h : y = pj_b2 b) (q : y.toInt = 0) : b = false := by
  cases b with
  | false => rfl
  | true =>
    rw [h] at q
    exact absurd q (by decide)
theorem pj_b2_r (b : Bool) : (0 : Int) ≤ (pj_b2 b).toInt ∧ (pj_b2 b).toInt ≤ 1 := by
  cases b with
  | false => decide
  | true => decide
def pj_rem (ok : Int32 → Int32 → Bool) (i j n : Int32) : Int32 := pj_out ok (9 - i.toInt).toNat (i + Int32.ofInt 1) (pj_inn ok i (10 - j.toInt).toNat j n)
theorem pj_rem_0 {ok : Int32 → Int32 → Bool} {i n T : Int32} (h : pj_out ok (10 - i.toInt).toNat i n = T) (h1 : 1 ≤ i.toInt) (h9 : i.toInt ≤ 9) : pj_rem ok i (Int32.ofInt 1) n = T := by
  unfold pj_rem
  rw [show (10 - (Int32.ofInt 1).toInt).toNat = 9 by decide, ← h, show (10 - i.toInt).toNat = (9 - i.toInt).toNat + 1 by omega]
  rfl
theorem pj_rem_s {ok : Int32 → Int32 → Bool} {i j j' n n' T : Int32} (h : pj_rem ok i j n = T) (h9 : j.toInt ≤ 9) (h1 : 1 ≤ j.toInt) (hj : j' = j + Int32.ofInt 1) (hn : (ok i j = true ∧ n' = n + Int32.ofInt 1) ∨ (ok i j = false ∧ n' = n)) : pj_rem ok i j' n' = T := by
  have e : j'.toInt = j.toInt + 1 := by
    rw [hj]
    exact pj_inc24 (by omega)
  rw [← h]
  unfold pj_rem
  rw [show (10 - j.toInt).toNat = (10 - j'.toInt).toNat + 1 by omega]
  show _ = pj_out ok _ _ (pj_inn ok i (10 - j'.toInt).toNat (j + Int32.ofInt 1) (match ok i j with
    | true => n + Int32.ofInt 1
    | false => n))
  rw [← hj]
  rcases hn with ⟨a, b⟩ | ⟨a, b⟩
  · rw [a, b]
  · rw [a, b]
theorem pj_rem_e {ok : Int32 → Int32 → Bool} {i i' j n T : Int32} (h : pj_rem ok i j n = T) (h10 : j.toInt = 10) (hi : i' = i + Int32.ofInt 1) (h1 : 1 ≤ i.toInt) (h9 : i.toInt ≤ 9) : pj_out ok (10 - i'.toInt).toNat i' n = T := by
  have e : i'.toInt = i.toInt + 1 := by
    rw [hi]
    exact pj_inc24 (by omega)
  rw [← h]
  unfold pj_rem
  rw [show (10 - j.toInt).toNat = 0 by omega, show (10 - i'.toInt).toNat = (9 - i.toInt).toNat by omega, hi]
  rfl
theorem pj_out_e {ok : Int32 → Int32 → Bool} {i n T : Int32} (h : pj_out ok (10 - i.toInt).toNat i n = T) (h10 : i.toInt = 10) : n = T := by
  rw [← h, show (10 - i.toInt).toNat = 0 by omega]
  rfl
theorem pj_andT {a b : Bool} (h1 : a = true) (h2 : b = true) : (a && b) = true := by rw [h1, h2]; rfl
theorem pj_andF1 {a b : Bool} (h1 : a = false) : (a && b) = false := by rw [h1]; rfl
theorem pj_andF2 {a b : Bool} (h1 : b = false) : (a && b) = false := by rw [h1, Bool.and_false]
theorem ct_167k (G0 : pj_G) (hI : pj_Inv G0) (a b c : Int32) : pj_Y 3 167 [.int a, .int b, .int c] G0 (fun v G' => ∃ y : Int32, v = some (.int y) ∧ G0 = G' ∧ ((0 : Int) ≤ y.toInt ∧ y.toInt ≤ 1) ∧ (y = pj_b2 (pj_kpr a b c 9 (Int32.ofInt 1)))) := ⟨_, _, pj_E_up (by decide) (pj_keepsE G0 a b c), _, rfl, rfl, pj_b2_r _, rfl⟩
theorem ct_274k (G0 : pj_G) (hI : pj_Inv G0) (a b c : Int32) : pj_Y 3 274 [.int a, .int b, .int c] G0 (fun v G' => ∃ y : Int32, v = some (.int y) ∧ G0 = G' ∧ ((0 : Int) ≤ y.toInt ∧ y.toInt ≤ 1) ∧ (y = pj_b2 (pj_ir a b c 9 (Int32.ofInt 1) true))) := ⟨_, _, pj_E_up (by decide) (pj_isRestE G0 a b c), _, rfl, rfl, pj_b2_r _, rfl⟩
theorem lp_ct_154f (G0 : pj_G) (hI0 : pj_Inv G0) (c : Int32) : ∀ mn : Nat, (∀ (G : pj_G) (hI : pj_Inv G) (hK : pj_kpt pj_K0 G0 G) (v2 : Int32) (v3 : Int32), ((0 : Int) ≤ v2.toInt ∧ v2.toInt ≤ 90) → ((1 : Int) ≤ v3.toInt ∧ v3.toInt ≤ 10) → (pj_out (pj_okXr c) (10 - v3.toInt).toNat v3 v2 = pj_out (pj_okXr c) 9 (Int32.ofInt 1) (Int32.ofInt 0)) → (0 ≤ c.toInt ∧ c.toInt ≤ 9) → (v2.toInt ≤ 9 * v3.toInt - 9) → 30 * (10 - v3.toInt) < (mn : Int) → pj_X 4 pj_m154 G 23 [(0, .ref 1), (1, .int c), (2, .int v2), (3, .int v3)] [] (fun v G' => ∃ y : Int32, v = some (.int y) ∧ pj_Inv G' ∧ pj_kpt pj_K0 G0 G' ∧ ((-2147483648 : Int) ≤ y.toInt ∧ y.toInt ≤ 2147483647) ∧ ((0 ≤ c.toInt ∧ c.toInt ≤ 9 → y = pj_out (pj_okXr c) 9 (Int32.ofInt 1) (Int32.ofInt 0)) ∧ (c.toInt < 0 ∨ 9 < c.toInt → y = Int32.ofInt (-1))))) ∧ (∀ (G : pj_G) (hI : pj_Inv G) (hK : pj_kpt pj_K0 G0 G) (v2 : Int32) (v3 : Int32) (v4 : Int32), ((0 : Int) ≤ v2.toInt ∧ v2.toInt ≤ 90) → ((1 : Int) ≤ v3.toInt ∧ v3.toInt ≤ 9) → ((1 : Int) ≤ v4.toInt ∧ v4.toInt ≤ 10) → (pj_rem (pj_okXr c) v3 v4 v2 = pj_out (pj_okXr c) 9 (Int32.ofInt 1) (Int32.ofInt 0)) → (0 ≤ c.toInt ∧ c.toInt ≤ 9) → (v2.toInt ≤ 9 * v3.toInt - 10 + v4.toInt) → 30 * (10 - v3.toInt) - 1 - v4.toInt < (mn : Int) → pj_X 4 pj_m154 G 32 [(0, .ref 1), (1, .int c), (2, .int v2), (3, .int v3), (4, .int v4)] [] (fun v G' => ∃ y : Int32, v = some (.int y) ∧ pj_Inv G' ∧ pj_kpt pj_K0 G0 G' ∧ ((-2147483648 : Int) ≤ y.toInt ∧ y.toInt ≤ 2147483647) ∧ ((0 ≤ c.toInt ∧ c.toInt ≤ 9 → y = pj_out (pj_okXr c) 9 (Int32.ofInt 1) (Int32.ofInt 0)) ∧ (c.toInt < 0 ∨ 9 < c.toInt → y = Int32.ofInt (-1))))) := by
  have c0_ : ((Int8.ofInt 9).toInt32).toInt = 9 := by decide
  have c1_ : (Int32.ofInt (-1)).toInt = -1 := by decide
  have c2_ : (Int32.ofInt 0).toInt = 0 := by decide
  have c3_ : (Int32.ofInt 1).toInt = 1 := by decide
  intro mn
  induction mn with
  | zero =>
    refine ⟨?_, ?_⟩
    · intro G hI hK v2 v3 rv2 rv3 x0_ x1_ x2_ hm
      exfalso
      omega
    · intro G hI hK v2 v3 v4 rv2 rv3 rv4 x0_ x1_ x2_ hm
      exfalso
      omega
  | succ mn ih =>
    refine ⟨?_, ?_⟩
    · intro G hI hK v2 v3 rv2 rv3 x0_ x1_ x2_ hm
      refine pj_X_of (fun r h => pj_R_to (G, 26, [(0, .ref 1), (1, .int c), (2, .int v2), (3, .int v3)], [.int ((Int8.ofInt 9).toInt32), .int v3], 0, 0) 26 3 (fun _ => rfl) h) ?_
      cases b1 : pj_c1 .gt v3 ((Int8.ofInt 9).toInt32) with
      | true =>
        have ub1 := pj_u_gtT b1
        refine pj_X_of (fun r h => pj_R_icT 90 rfl rfl b1 h) ?_
        refine pj_X_of (fun r h => pj_R_to (G, 91, [(0, .ref 1), (1, .int c), (2, .int v2), (3, .int v3)], [.int v2], 0, 0) 91 2 (fun _ => rfl) h) ?_
        exact pj_X_rt rfl rfl ⟨_, rfl, hI, hK, pj_i32 _, ⟨fun _ => pj_out_e x0_ (by omega), fun q => by exfalso; omega⟩⟩
      | false =>
        have ub1 := pj_u_gtF b1
        refine pj_X_of (fun r h => pj_R_icF rfl b1 h) ?_
        refine pj_X_of (fun r h => pj_R_to (G, 32, [(4, .int (Int32.ofInt 1)), (0, .ref 1), (1, .int c), (2, .int v2), (3, .int v3)], [], 0, 0) 32 3 (fun _ => rfl) h) ?_
        exact pj_X_sub [(0, .ref 1), (1, .int c), (2, .int v2), (3, .int v3), (4, .int (Int32.ofInt 1))] (show List.Nodup [0, 1, 2, 3, 4] by decide) ⟨rfl, rfl, rfl, rfl, rfl, trivial⟩ (ih.2 G hI hK v2 v3 (Int32.ofInt 1) ⟨by omega, by omega⟩ ⟨by omega, by omega⟩ ⟨by omega, by omega⟩ (pj_rem_0 x0_ (by omega) (by omega)) (by omega) (by omega) (by omega))
    · intro G hI hK v2 v3 v4 rv2 rv3 rv4 x0_ x1_ x2_ hm
      refine pj_X_of (fun r h => pj_R_to (G, 36, [(0, .ref 1), (1, .int c), (2, .int v2), (3, .int v3), (4, .int v4)], [.int ((Int8.ofInt 9).toInt32), .int v4], 0, 0) 36 3 (fun _ => rfl) h) ?_
      cases b2 : pj_c1 .gt v4 ((Int8.ofInt 9).toInt32) with
      | true =>
        have ub2 := pj_u_gtT b2
        refine pj_X_of (fun r h => pj_R_icT 84 rfl rfl b2 h) ?_
        refine pj_X_of (fun r h => pj_R_to (G, 87, [(3, .int (v3 + Int32.ofInt 1)), (0, .ref 1), (1, .int c), (2, .int v2), (4, .int v4)], [], 0, 0) 87 2 (fun _ => rfl) h) ?_
        obtain ⟨z3, hz3⟩ : ∃ z : Int32, z = v3 + Int32.ofInt 1 := ⟨_, rfl⟩
        rw [← hz3]
        have fz3_0 : z3.toInt = v3.toInt + (Int32.ofInt 1).toInt := by rw [hz3]; exact pj_addI (by have := pj_i32 v3; have := pj_i32 (Int32.ofInt 1); omega) (by have := pj_i32 v3; have := pj_i32 (Int32.ofInt 1); omega)
        refine pj_X_of (fun r h => pj_R_to (G, 23, [(3, .int z3), (0, .ref 1), (1, .int c), (2, .int v2), (4, .int v4)], [], 0, 0) 23 2 (fun _ => rfl) h) ?_
        exact pj_X_sub [(0, .ref 1), (1, .int c), (2, .int v2), (3, .int z3)] (show List.Nodup [0, 1, 2, 3] by decide) ⟨rfl, rfl, rfl, rfl, trivial⟩ (ih.1 G hI hK v2 z3 ⟨by omega, by omega⟩ ⟨by omega, by omega⟩ (pj_rem_e x0_ (by omega) hz3 (by omega) (by omega)) (by omega) (by omega) (by omega))
      | false =>
        have ub2 := pj_u_gtF b2
        refine pj_X_of (fun r h => pj_R_icF rfl b2 h) ?_
        refine pj_X_of (fun r h => pj_R_to (G, 43, [(0, .ref 1), (1, .int c), (2, .int v2), (3, .int v3), (4, .int v4)], [.int c, .int v4, .int v3], 0, 0) 43 4 (fun _ => rfl) h) ?_
        refine pj_X_ca (vs := [.int v3, .int v4, .int c]) rfl (fun _ => rfl) ⟨Nat.le_of_ble_eq_true rfl, Nat.le_of_ble_eq_true rfl, rfl⟩ ⟨rfl, rfl⟩ (pj_Y_up (by decide) (ct_167k G hI v3 v4 c)) ?_
        rintro _ _ ⟨y4, rfl, rfl, ry4, ey4⟩
        show pj_X _ _ G 46 [(0, .ref 1), (1, .int c), (2, .int v2), (3, .int v3), (4, .int v4)] [.int y4] _
        cases b5 : pj_c1 .eq y4 0 with
        | true =>
          have ub5 := pj_u0_eqT b5
          refine pj_X_of (fun r h => pj_R_ifT 78 rfl rfl b5 h) ?_
          refine pj_X_of (fun r h => pj_R_to (G, 81, [(4, .int (v4 + Int32.ofInt 1)), (0, .ref 1), (1, .int c), (2, .int v2), (3, .int v3)], [], 0, 0) 81 2 (fun _ => rfl) h) ?_
          obtain ⟨z6, hz6⟩ : ∃ z : Int32, z = v4 + Int32.ofInt 1 := ⟨_, rfl⟩
          rw [← hz6]
          have fz6_0 : z6.toInt = v4.toInt + (Int32.ofInt 1).toInt := by rw [hz6]; exact pj_addI (by have := pj_i32 v4; have := pj_i32 (Int32.ofInt 1); omega) (by have := pj_i32 v4; have := pj_i32 (Int32.ofInt 1); omega)
          refine pj_X_of (fun r h => pj_R_to (G, 32, [(4, .int z6), (0, .ref 1), (1, .int c), (2, .int v2), (3, .int v3)], [], 0, 0) 32 2 (fun _ => rfl) h) ?_
          exact pj_X_sub [(0, .ref 1), (1, .int c), (2, .int v2), (3, .int v3), (4, .int z6)] (show List.Nodup [0, 1, 2, 3, 4] by decide) ⟨rfl, rfl, rfl, rfl, rfl, trivial⟩ (ih.2 G hI hK v2 v3 z6 ⟨by omega, by omega⟩ ⟨by omega, by omega⟩ ⟨by omega, by omega⟩ (pj_rem_s x0_ (by omega) (by omega) hz6 (Or.inr ⟨pj_andF1 (pj_b2_f ey4 (by omega)), rfl⟩)) (by omega) (by omega) (by omega))
        | false =>
          have ub5 := pj_u0_eqF b5
          refine pj_X_of (fun r h => pj_R_ifF rfl b5 h) ?_
          refine pj_X_of (fun r h => pj_R_to (G, 53, [(0, .ref 1), (1, .int c), (2, .int v2), (3, .int v3), (4, .int v4)], [.int c, .int v3, .int v4], 0, 0) 53 4 (fun _ => rfl) h) ?_
          refine pj_X_ca (vs := [.int v4, .int v3, .int c]) rfl (fun _ => rfl) ⟨Nat.le_of_ble_eq_true rfl, Nat.le_of_ble_eq_true rfl, rfl⟩ ⟨rfl, rfl⟩ (pj_Y_up (by decide) (ct_167k G hI v4 v3 c)) ?_
          rintro _ _ ⟨y7, rfl, rfl, ry7, ey7⟩
          show pj_X _ _ G 56 [(0, .ref 1), (1, .int c), (2, .int v2), (3, .int v3), (4, .int v4)] [.int y7] _
          cases b8 : pj_c1 .eq y7 0 with
          | true =>
            have ub8 := pj_u0_eqT b8
            refine pj_X_of (fun r h => pj_R_ifT 78 rfl rfl b8 h) ?_
            refine pj_X_of (fun r h => pj_R_to (G, 81, [(4, .int (v4 + Int32.ofInt 1)), (0, .ref 1), (1, .int c), (2, .int v2), (3, .int v3)], [], 0, 0) 81 2 (fun _ => rfl) h) ?_
            obtain ⟨z9, hz9⟩ : ∃ z : Int32, z = v4 + Int32.ofInt 1 := ⟨_, rfl⟩
            rw [← hz9]
            have fz9_0 : z9.toInt = v4.toInt + (Int32.ofInt 1).toInt := by rw [hz9]; exact pj_addI (by have := pj_i32 v4; have := pj_i32 (Int32.ofInt 1); omega) (by have := pj_i32 v4; have := pj_i32 (Int32.ofInt 1); omega)
            refine pj_X_of (fun r h => pj_R_to (G, 32, [(4, .int z9), (0, .ref 1), (1, .int c), (2, .int v2), (3, .int v3)], [], 0, 0) 32 2 (fun _ => rfl) h) ?_
            exact pj_X_sub [(0, .ref 1), (1, .int c), (2, .int v2), (3, .int v3), (4, .int z9)] (show List.Nodup [0, 1, 2, 3, 4] by decide) ⟨rfl, rfl, rfl, rfl, rfl, trivial⟩ (ih.2 G hI hK v2 v3 z9 ⟨by omega, by omega⟩ ⟨by omega, by omega⟩ ⟨by omega, by omega⟩ (pj_rem_s x0_ (by omega) (by omega) hz9 (Or.inr ⟨pj_andF2 (pj_b2_f ey7 (by omega)), rfl⟩)) (by omega) (by omega) (by omega))
          | false =>
            have ub8 := pj_u0_eqF b8
            refine pj_X_of (fun r h => pj_R_ifF rfl b8 h) ?_
            refine pj_X_of (fun r h => pj_R_to (G, 60, [(0, .ref 1), (1, .int c), (2, .int v2), (3, .int v3), (4, .int v4)], [.int v2], 0, 0) 60 2 (fun _ => rfl) h) ?_
            cases b10 : pj_c1 .ne v2 0 with
            | true =>
              have ub10 := pj_u0_neT b10
              refine pj_X_of (fun r h => pj_R_ifT 75 rfl rfl b10 h) ?_
              refine pj_X_of (fun r h => pj_R_to (G, 78, [(2, .int (v2 + Int32.ofInt 1)), (0, .ref 1), (1, .int c), (3, .int v3), (4, .int v4)], [], 0, 0) 78 2 (fun _ => rfl) h) ?_
              obtain ⟨z11, hz11⟩ : ∃ z : Int32, z = v2 + Int32.ofInt 1 := ⟨_, rfl⟩
              rw [← hz11]
              have fz11_0 : z11.toInt = v2.toInt + (Int32.ofInt 1).toInt := by rw [hz11]; exact pj_addI (by have := pj_i32 v2; have := pj_i32 (Int32.ofInt 1); omega) (by have := pj_i32 v2; have := pj_i32 (Int32.ofInt 1); omega)
              refine pj_X_of (fun r h => pj_R_to (G, 81, [(4, .int (v4 + Int32.ofInt 1)), (2, .int z11), (0, .ref 1), (1, .int c), (3, .int v3)], [], 0, 0) 81 2 (fun _ => rfl) h) ?_
              obtain ⟨z12, hz12⟩ : ∃ z : Int32, z = v4 + Int32.ofInt 1 := ⟨_, rfl⟩
              rw [← hz12]
              have fz12_0 : z12.toInt = v4.toInt + (Int32.ofInt 1).toInt := by rw [hz12]; exact pj_addI (by have := pj_i32 v4; have := pj_i32 (Int32.ofInt 1); omega) (by have := pj_i32 v4; have := pj_i32 (Int32.ofInt 1); omega)
              refine pj_X_of (fun r h => pj_R_to (G, 32, [(4, .int z12), (2, .int z11), (0, .ref 1), (1, .int c), (3, .int v3)], [], 0, 0) 32 2 (fun _ => rfl) h) ?_
              exact pj_X_sub [(0, .ref 1), (1, .int c), (2, .int z11), (3, .int v3), (4, .int z12)] (show List.Nodup [0, 1, 2, 3, 4] by decide) ⟨rfl, rfl, rfl, rfl, rfl, trivial⟩ (ih.2 G hI hK z11 v3 z12 ⟨by omega, by omega⟩ ⟨by omega, by omega⟩ ⟨by omega, by omega⟩ (pj_rem_s x0_ (by omega) (by omega) hz12 (Or.inl ⟨pj_andT (pj_b2_t ey4 (by omega)) (pj_b2_t ey7 (by omega)), hz11⟩)) (by omega) (by omega) (by omega))
            | false =>
              have ub10 := pj_u0_neF b10
              refine pj_X_of (fun r h => pj_R_ifF rfl b10 h) ?_
              refine pj_X_of (fun r h => pj_R_to (G, 64, [(0, .ref 1), (1, .int c), (2, .int v2), (3, .int v3), (4, .int v4)], [.ref 1], 0, 0) 64 2 (fun _ => rfl) h) ?_
              refine pj_X_of (fun r h => pj_T_gr hI rfl rfl rfl h) ?_
              refine pj_X_of (fun r h => pj_R_to (G, 72, [(0, .ref 1), (1, .int c), (2, .int v2), (3, .int v3), (4, .int v4)], [.long v4.toInt64, .long v3.toInt64, .ref 4], 0, 0) 72 5 (fun _ => rfl) h) ?_
              have lc13 : (v3.toInt64).toInt = v3.toInt := Int32.toInt_toInt64 _
              have lc14 : (v4.toInt64).toInt = v4.toInt := Int32.toInt_toInt64 _
              refine pj_X_ca (vs := [.ref 4, .long v3.toInt64, .long v4.toInt64]) rfl (fun _ => rfl) ⟨Nat.le_of_ble_eq_true rfl, Nat.le_of_ble_eq_true rfl, pj_T_rcv hI rfl⟩ ⟨rfl, rfl⟩ (pj_Y_up (by decide) (ct_56 G hI v3.toInt64 v4.toInt64)) ?_
              rintro _ G16 ⟨rfl, iG16, jG16⟩
              have kG16 : pj_kpt pj_K0 G0 G16 := pj_kpt_t hK (pj_kpt_s jG16 rfl)
              show pj_X _ _ G16 75 [(0, .ref 1), (1, .int c), (2, .int v2), (3, .int v3), (4, .int v4)] [] _
              refine pj_X_of (fun r h => pj_R_to (G16, 78, [(2, .int (v2 + Int32.ofInt 1)), (0, .ref 1), (1, .int c), (3, .int v3), (4, .int v4)], [], 0, 0) 78 2 (fun _ => rfl) h) ?_
              obtain ⟨z17, hz17⟩ : ∃ z : Int32, z = v2 + Int32.ofInt 1 := ⟨_, rfl⟩
              rw [← hz17]
              have fz17_0 : z17.toInt = v2.toInt + (Int32.ofInt 1).toInt := by rw [hz17]; exact pj_addI (by have := pj_i32 v2; have := pj_i32 (Int32.ofInt 1); omega) (by have := pj_i32 v2; have := pj_i32 (Int32.ofInt 1); omega)
              refine pj_X_of (fun r h => pj_R_to (G16, 81, [(4, .int (v4 + Int32.ofInt 1)), (2, .int z17), (0, .ref 1), (1, .int c), (3, .int v3)], [], 0, 0) 81 2 (fun _ => rfl) h) ?_
              obtain ⟨z18, hz18⟩ : ∃ z : Int32, z = v4 + Int32.ofInt 1 := ⟨_, rfl⟩
              rw [← hz18]
              have fz18_0 : z18.toInt = v4.toInt + (Int32.ofInt 1).toInt := by rw [hz18]; exact pj_addI (by have := pj_i32 v4; have := pj_i32 (Int32.ofInt 1); omega) (by have := pj_i32 v4; have := pj_i32 (Int32.ofInt 1); omega)
              refine pj_X_of (fun r h => pj_R_to (G16, 32, [(4, .int z18), (2, .int z17), (0, .ref 1), (1, .int c), (3, .int v3)], [], 0, 0) 32 2 (fun _ => rfl) h) ?_
              exact pj_X_sub [(0, .ref 1), (1, .int c), (2, .int z17), (3, .int v3), (4, .int z18)] (show List.Nodup [0, 1, 2, 3, 4] by decide) ⟨rfl, rfl, rfl, rfl, rfl, trivial⟩ (ih.2 G16 iG16 kG16 z17 v3 z18 ⟨by omega, by omega⟩ ⟨by omega, by omega⟩ ⟨by omega, by omega⟩ (pj_rem_s x0_ (by omega) (by omega) hz18 (Or.inl ⟨pj_andT (pj_b2_t ey4 (by omega)) (pj_b2_t ey7 (by omega)), hz17⟩)) (by omega) (by omega) (by omega))
theorem ct_154f (G0 : pj_G) (hI : pj_Inv G0) (c : Int32) : pj_Y 5 154 [.ref 1, .int c] G0 (fun v G' => ∃ y : Int32, v = some (.int y) ∧ pj_Inv G' ∧ pj_kpt pj_K0 G0 G' ∧ ((-2147483648 : Int) ≤ y.toInt ∧ y.toInt ≤ 2147483647) ∧ ((0 ≤ c.toInt ∧ c.toInt ≤ 9 → y = pj_out (pj_okXr c) 9 (Int32.ofInt 1) (Int32.ofInt 0)) ∧ (c.toInt < 0 ∨ 9 < c.toInt → y = Int32.ofInt (-1)))) := by
  have c0_ : ((Int8.ofInt 9).toInt32).toInt = 9 := by decide
  have c1_ : (Int32.ofInt (-1)).toInt = -1 := by decide
  have c2_ : (Int32.ofInt 0).toInt = 0 := by decide
  have c3_ : (Int32.ofInt 1).toInt = 1 := by decide
  refine pj_Y_X (M := pj_m154) rfl rfl (Nat.le_of_ble_eq_true rfl) ?_
  have hK : pj_kpt pj_K0 G0 G0 := pj_kpt_r _ _
  show pj_X _ _ G0 0 [(0, .ref 1), (1, .int c)] [] _
  refine pj_X_of (fun r h => pj_R_to (G0, 1, [(0, .ref 1), (1, .int c)], [.int c], 0, 0) 1 2 (fun _ => rfl) h) ?_
  cases b19 : pj_c1 .lt c 0 with
  | true =>
    have ub19 := pj_u0_ltT b19
    refine pj_X_of (fun r h => pj_R_ifT 10 rfl rfl b19 h) ?_
    refine pj_X_of (fun r h => pj_R_to (G0, 11, [(0, .ref 1), (1, .int c)], [.int (Int32.ofInt (-1))], 0, 0) 11 2 (fun _ => rfl) h) ?_
    exact pj_X_rt rfl rfl ⟨_, rfl, hI, hK, pj_i32 _, ⟨fun q => by exfalso; omega, fun _ => rfl⟩⟩
  | false =>
    have ub19 := pj_u0_ltF b19
    refine pj_X_of (fun r h => pj_R_ifF rfl b19 h) ?_
    refine pj_X_of (fun r h => pj_R_to (G0, 7, [(0, .ref 1), (1, .int c)], [.int ((Int8.ofInt 9).toInt32), .int c], 0, 0) 7 3 (fun _ => rfl) h) ?_
    cases b20 : pj_c1 .le c ((Int8.ofInt 9).toInt32) with
    | true =>
      have ub20 := pj_u_leT b20
      refine pj_X_of (fun r h => pj_R_icT 12 rfl rfl b20 h) ?_
      refine pj_X_of (fun r h => pj_R_to (G0, 13, [(0, .ref 1), (1, .int c)], [.ref 1], 0, 0) 13 2 (fun _ => rfl) h) ?_
      refine pj_X_of (fun r h => pj_T_gr hI rfl rfl rfl h) ?_
      refine pj_X_ca (vs := [.ref 4]) rfl (fun _ => rfl) ⟨Nat.le_of_ble_eq_true rfl, Nat.le_of_ble_eq_true rfl, pj_T_rcv hI rfl⟩ ⟨rfl, rfl⟩ (pj_Y_up (by decide) (ct_53 G0 hI)) ?_
      rintro _ G22 ⟨rfl, iG22, jG22⟩
      have kG22 : pj_kpt pj_K0 G0 G22 := pj_kpt_t hK (pj_kpt_s jG22 rfl)
      show pj_X _ _ G22 19 [(0, .ref 1), (1, .int c)] [] _
      refine pj_X_of (fun r h => pj_R_to (G22, 23, [(3, .int (Int32.ofInt 1)), (2, .int (Int32.ofInt 0)), (0, .ref 1), (1, .int c)], [], 0, 0) 23 5 (fun _ => rfl) h) ?_
      exact pj_X_sub [(0, .ref 1), (1, .int c), (2, .int (Int32.ofInt 0)), (3, .int (Int32.ofInt 1))] (show List.Nodup [0, 1, 2, 3] by decide) ⟨rfl, rfl, rfl, rfl, trivial⟩ ((lp_ct_154f G0 hI c  401).1 G22 iG22 kG22 (Int32.ofInt 0) (Int32.ofInt 1) ⟨by omega, by omega⟩ ⟨by omega, by omega⟩ rfl (by omega) (by omega) (by omega))
    | false =>
      have ub20 := pj_u_leF b20
      refine pj_X_of (fun r h => pj_R_icF rfl b20 h) ?_
      refine pj_X_of (fun r h => pj_R_to (G0, 11, [(0, .ref 1), (1, .int c)], [.int (Int32.ofInt (-1))], 0, 0) 11 2 (fun _ => rfl) h) ?_
      exact pj_X_rt rfl rfl ⟨_, rfl, hI, hK, pj_i32 _, ⟨fun q => by exfalso; omega, fun _ => rfl⟩⟩
theorem lp_ct_275f (G0 : pj_G) (hI0 : pj_Inv G0) (c : Int32) : ∀ mn : Nat, (∀ (G : pj_G) (hI : pj_Inv G) (hK : pj_kpt pj_M0 G0 G) (v2 : Int32) (v3 : Int32), ((0 : Int) ≤ v2.toInt ∧ v2.toInt ≤ 90) → ((1 : Int) ≤ v3.toInt ∧ v3.toInt ≤ 10) → (pj_out (pj_okMr c) (10 - v3.toInt).toNat v3 v2 = pj_out (pj_okMr c) 9 (Int32.ofInt 1) (Int32.ofInt 0)) → (0 ≤ c.toInt ∧ c.toInt ≤ 9) → (v2.toInt ≤ 9 * v3.toInt - 9) → (v2.toInt = 0 → (pj_fi G 171 1).toInt = 0) → ((pj_fi G 171 1).toInt ≤ 2) → 30 * (10 - v3.toInt) < (mn : Int) → pj_X 4 pj_m275 G 28 [(0, .ref 171), (1, .int c), (2, .int v2), (3, .int v3)] [] (fun v G' => ∃ y : Int32, v = some (.int y) ∧ pj_Inv G' ∧ pj_kpt pj_M0 G0 G' ∧ ((-2147483648 : Int) ≤ y.toInt ∧ y.toInt ≤ 2147483647) ∧ ((0 ≤ c.toInt ∧ c.toInt ≤ 9 → y = pj_out (pj_okMr c) 9 (Int32.ofInt 1) (Int32.ofInt 0)) ∧ (c.toInt < 0 ∨ 9 < c.toInt → y = Int32.ofInt (-1))))) ∧ (∀ (G : pj_G) (hI : pj_Inv G) (hK : pj_kpt pj_M0 G0 G) (v2 : Int32) (v3 : Int32) (v4 : Int32), ((0 : Int) ≤ v2.toInt ∧ v2.toInt ≤ 90) → ((1 : Int) ≤ v3.toInt ∧ v3.toInt ≤ 9) → ((1 : Int) ≤ v4.toInt ∧ v4.toInt ≤ 10) → (pj_rem (pj_okMr c) v3 v4 v2 = pj_out (pj_okMr c) 9 (Int32.ofInt 1) (Int32.ofInt 0)) → (0 ≤ c.toInt ∧ c.toInt ≤ 9) → (v2.toInt ≤ 9 * v3.toInt - 10 + v4.toInt) → (v2.toInt = 0 → (pj_fi G 171 1).toInt = 0) → ((pj_fi G 171 1).toInt ≤ 2) → 30 * (10 - v3.toInt) - 1 - v4.toInt < (mn : Int) → pj_X 4 pj_m275 G 37 [(0, .ref 171), (1, .int c), (2, .int v2), (3, .int v3), (4, .int v4)] [] (fun v G' => ∃ y : Int32, v = some (.int y) ∧ pj_Inv G' ∧ pj_kpt pj_M0 G0 G' ∧ ((-2147483648 : Int) ≤ y.toInt ∧ y.toInt ≤ 2147483647) ∧ ((0 ≤ c.toInt ∧ c.toInt ≤ 9 → y = pj_out (pj_okMr c) 9 (Int32.ofInt 1) (Int32.ofInt 0)) ∧ (c.toInt < 0 ∨ 9 < c.toInt → y = Int32.ofInt (-1))))) := by
  have c0_ : ((Int8.ofInt 9).toInt32).toInt = 9 := by decide
  have c1_ : (Int32.ofInt (-1)).toInt = -1 := by decide
  have c2_ : (Int32.ofInt 0).toInt = 0 := by decide
  have c3_ : (Int32.ofInt 1).toInt = 1 := by decide
  intro mn
  induction mn with
  | zero =>
    refine ⟨?_, ?_⟩
    · intro G hI hK v2 v3 rv2 rv3 x0_ x1_ x2_ x3_ x4_ hm
      exfalso
      omega
    · intro G hI hK v2 v3 v4 rv2 rv3 rv4 x0_ x1_ x2_ x3_ x4_ hm
      exfalso
      omega
  | succ mn ih =>
    refine ⟨?_, ?_⟩
    · intro G hI hK v2 v3 rv2 rv3 x0_ x1_ x2_ x3_ x4_ hm
      obtain ⟨y1, hy1⟩ : ∃ z : Int32, z = pj_fi G 171 1 := ⟨_, rfl⟩
      have ey1 : (pj_fi G 171 1).toInt = y1.toInt := by rw [hy1]
      have ry1 : (0 : Int) ≤ y1.toInt ∧ y1.toInt ≤ 24 := by rw [hy1]; exact hI.2.1 171 1 (0, 24) rfl
      refine pj_X_of (fun r h => pj_R_to (G, 31, [(0, .ref 171), (1, .int c), (2, .int v2), (3, .int v3)], [.int ((Int8.ofInt 9).toInt32), .int v3], 0, 0) 31 3 (fun _ => rfl) h) ?_
      cases b2 : pj_c1 .gt v3 ((Int8.ofInt 9).toInt32) with
      | true =>
        have ub2 := pj_u_gtT b2
        refine pj_X_of (fun r h => pj_R_icT 96 rfl rfl b2 h) ?_
        refine pj_X_of (fun r h => pj_R_to (G, 97, [(0, .ref 171), (1, .int c), (2, .int v2), (3, .int v3)], [.int v2], 0, 0) 97 2 (fun _ => rfl) h) ?_
        have q3 : (pj_fi G 171 1).toInt = y1.toInt := by rw [show pj_fi G 171 1 = y1 from hy1.symm]
        exact pj_X_rt rfl rfl ⟨_, rfl, hI, hK, pj_i32 _, ⟨fun _ => pj_out_e x0_ (by omega), fun q => by exfalso; omega⟩⟩
      | false =>
        have ub2 := pj_u_gtF b2
        refine pj_X_of (fun r h => pj_R_icF rfl b2 h) ?_
        refine pj_X_of (fun r h => pj_R_to (G, 37, [(4, .int (Int32.ofInt 1)), (0, .ref 171), (1, .int c), (2, .int v2), (3, .int v3)], [], 0, 0) 37 3 (fun _ => rfl) h) ?_
        have q4 : (pj_fi G 171 1).toInt = y1.toInt := by rw [show pj_fi G 171 1 = y1 from hy1.symm]
        exact pj_X_sub [(0, .ref 171), (1, .int c), (2, .int v2), (3, .int v3), (4, .int (Int32.ofInt 1))] (show List.Nodup [0, 1, 2, 3, 4] by decide) ⟨rfl, rfl, rfl, rfl, rfl, trivial⟩ (ih.2 G hI hK v2 v3 (Int32.ofInt 1) ⟨by omega, by omega⟩ ⟨by omega, by omega⟩ ⟨by omega, by omega⟩ (pj_rem_0 x0_ (by omega) (by omega)) (by omega) (by omega) (by omega) (by omega) (by omega))
    · intro G hI hK v2 v3 v4 rv2 rv3 rv4 x0_ x1_ x2_ x3_ x4_ hm
      obtain ⟨y5, hy5⟩ : ∃ z : Int32, z = pj_fi G 171 1 := ⟨_, rfl⟩
      have ey5 : (pj_fi G 171 1).toInt = y5.toInt := by rw [hy5]
      have ry5 : (0 : Int) ≤ y5.toInt ∧ y5.toInt ≤ 24 := by rw [hy5]; exact hI.2.1 171 1 (0, 24) rfl
      refine pj_X_of (fun r h => pj_R_to (G, 41, [(0, .ref 171), (1, .int c), (2, .int v2), (3, .int v3), (4, .int v4)], [.int ((Int8.ofInt 9).toInt32), .int v4], 0, 0) 41 3 (fun _ => rfl) h) ?_
      cases b6 : pj_c1 .gt v4 ((Int8.ofInt 9).toInt32) with
      | true =>
        have ub6 := pj_u_gtT b6
        refine pj_X_of (fun r h => pj_R_icT 90 rfl rfl b6 h) ?_
        refine pj_X_of (fun r h => pj_R_to (G, 93, [(3, .int (v3 + Int32.ofInt 1)), (0, .ref 171), (1, .int c), (2, .int v2), (4, .int v4)], [], 0, 0) 93 2 (fun _ => rfl) h) ?_
        obtain ⟨z7, hz7⟩ : ∃ z : Int32, z = v3 + Int32.ofInt 1 := ⟨_, rfl⟩
        rw [← hz7]
        have fz7_0 : z7.toInt = v3.toInt + (Int32.ofInt 1).toInt := by rw [hz7]; exact pj_addI (by have := pj_i32 v3; have := pj_i32 (Int32.ofInt 1); omega) (by have := pj_i32 v3; have := pj_i32 (Int32.ofInt 1); omega)
        refine pj_X_of (fun r h => pj_R_to (G, 28, [(3, .int z7), (0, .ref 171), (1, .int c), (2, .int v2), (4, .int v4)], [], 0, 0) 28 2 (fun _ => rfl) h) ?_
        have q8 : (pj_fi G 171 1).toInt = y5.toInt := by rw [show pj_fi G 171 1 = y5 from hy5.symm]
        exact pj_X_sub [(0, .ref 171), (1, .int c), (2, .int v2), (3, .int z7)] (show List.Nodup [0, 1, 2, 3] by decide) ⟨rfl, rfl, rfl, rfl, trivial⟩ (ih.1 G hI hK v2 z7 ⟨by omega, by omega⟩ ⟨by omega, by omega⟩ (pj_rem_e x0_ (by omega) hz7 (by omega) (by omega)) (by omega) (by omega) (by omega) (by omega) (by omega))
      | false =>
        have ub6 := pj_u_gtF b6
        refine pj_X_of (fun r h => pj_R_icF rfl b6 h) ?_
        refine pj_X_of (fun r h => pj_R_to (G, 48, [(0, .ref 171), (1, .int c), (2, .int v2), (3, .int v3), (4, .int v4)], [.int c, .int v4, .int v3], 0, 0) 48 4 (fun _ => rfl) h) ?_
        have q9 : (pj_fi G 171 1).toInt = y5.toInt := by rw [show pj_fi G 171 1 = y5 from hy5.symm]
        refine pj_X_ca (vs := [.int v3, .int v4, .int c]) rfl (fun _ => rfl) ⟨Nat.le_of_ble_eq_true rfl, Nat.le_of_ble_eq_true rfl, rfl⟩ ⟨rfl, rfl⟩ (pj_Y_up (by decide) (ct_274k G hI v3 v4 c)) ?_
        rintro _ _ ⟨y10, rfl, rfl, ry10, ey10⟩
        show pj_X _ _ G 51 [(0, .ref 171), (1, .int c), (2, .int v2), (3, .int v3), (4, .int v4)] [.int y10] _
        cases b11 : pj_c1 .eq y10 0 with
        | true =>
          have ub11 := pj_u0_eqT b11
          refine pj_X_of (fun r h => pj_R_ifT 84 rfl rfl b11 h) ?_
          refine pj_X_of (fun r h => pj_R_to (G, 87, [(4, .int (v4 + Int32.ofInt 1)), (0, .ref 171), (1, .int c), (2, .int v2), (3, .int v3)], [], 0, 0) 87 2 (fun _ => rfl) h) ?_
          obtain ⟨z12, hz12⟩ : ∃ z : Int32, z = v4 + Int32.ofInt 1 := ⟨_, rfl⟩
          rw [← hz12]
          have fz12_0 : z12.toInt = v4.toInt + (Int32.ofInt 1).toInt := by rw [hz12]; exact pj_addI (by have := pj_i32 v4; have := pj_i32 (Int32.ofInt 1); omega) (by have := pj_i32 v4; have := pj_i32 (Int32.ofInt 1); omega)
          refine pj_X_of (fun r h => pj_R_to (G, 37, [(4, .int z12), (0, .ref 171), (1, .int c), (2, .int v2), (3, .int v3)], [], 0, 0) 37 2 (fun _ => rfl) h) ?_
          have q13 : (pj_fi G 171 1).toInt = y5.toInt := by rw [show pj_fi G 171 1 = y5 from hy5.symm]
          exact pj_X_sub [(0, .ref 171), (1, .int c), (2, .int v2), (3, .int v3), (4, .int z12)] (show List.Nodup [0, 1, 2, 3, 4] by decide) ⟨rfl, rfl, rfl, rfl, rfl, trivial⟩ (ih.2 G hI hK v2 v3 z12 ⟨by omega, by omega⟩ ⟨by omega, by omega⟩ ⟨by omega, by omega⟩ (pj_rem_s x0_ (by omega) (by omega) hz12 (Or.inr ⟨pj_andF1 (pj_b2_f ey10 (by omega)), rfl⟩)) (by omega) (by omega) (by omega) (by omega) (by omega))
        | false =>
          have ub11 := pj_u0_eqF b11
          refine pj_X_of (fun r h => pj_R_ifF rfl b11 h) ?_
          refine pj_X_of (fun r h => pj_R_to (G, 58, [(0, .ref 171), (1, .int c), (2, .int v2), (3, .int v3), (4, .int v4)], [.int c, .int v3, .int v4], 0, 0) 58 4 (fun _ => rfl) h) ?_
          have q14 : (pj_fi G 171 1).toInt = y5.toInt := by rw [show pj_fi G 171 1 = y5 from hy5.symm]
          refine pj_X_ca (vs := [.int v4, .int v3, .int c]) rfl (fun _ => rfl) ⟨Nat.le_of_ble_eq_true rfl, Nat.le_of_ble_eq_true rfl, rfl⟩ ⟨rfl, rfl⟩ (pj_Y_up (by decide) (ct_274k G hI v4 v3 c)) ?_
          rintro _ _ ⟨y15, rfl, rfl, ry15, ey15⟩
          show pj_X _ _ G 61 [(0, .ref 171), (1, .int c), (2, .int v2), (3, .int v3), (4, .int v4)] [.int y15] _
          cases b16 : pj_c1 .eq y15 0 with
          | true =>
            have ub16 := pj_u0_eqT b16
            refine pj_X_of (fun r h => pj_R_ifT 84 rfl rfl b16 h) ?_
            refine pj_X_of (fun r h => pj_R_to (G, 87, [(4, .int (v4 + Int32.ofInt 1)), (0, .ref 171), (1, .int c), (2, .int v2), (3, .int v3)], [], 0, 0) 87 2 (fun _ => rfl) h) ?_
            obtain ⟨z17, hz17⟩ : ∃ z : Int32, z = v4 + Int32.ofInt 1 := ⟨_, rfl⟩
            rw [← hz17]
            have fz17_0 : z17.toInt = v4.toInt + (Int32.ofInt 1).toInt := by rw [hz17]; exact pj_addI (by have := pj_i32 v4; have := pj_i32 (Int32.ofInt 1); omega) (by have := pj_i32 v4; have := pj_i32 (Int32.ofInt 1); omega)
            refine pj_X_of (fun r h => pj_R_to (G, 37, [(4, .int z17), (0, .ref 171), (1, .int c), (2, .int v2), (3, .int v3)], [], 0, 0) 37 2 (fun _ => rfl) h) ?_
            have q18 : (pj_fi G 171 1).toInt = y5.toInt := by rw [show pj_fi G 171 1 = y5 from hy5.symm]
            exact pj_X_sub [(0, .ref 171), (1, .int c), (2, .int v2), (3, .int v3), (4, .int z17)] (show List.Nodup [0, 1, 2, 3, 4] by decide) ⟨rfl, rfl, rfl, rfl, rfl, trivial⟩ (ih.2 G hI hK v2 v3 z17 ⟨by omega, by omega⟩ ⟨by omega, by omega⟩ ⟨by omega, by omega⟩ (pj_rem_s x0_ (by omega) (by omega) hz17 (Or.inr ⟨pj_andF2 (pj_b2_f ey15 (by omega)), rfl⟩)) (by omega) (by omega) (by omega) (by omega) (by omega))
          | false =>
            have ub16 := pj_u0_eqF b16
            refine pj_X_of (fun r h => pj_R_ifF rfl b16 h) ?_
            refine pj_X_of (fun r h => pj_R_to (G, 65, [(0, .ref 171), (1, .int c), (2, .int v2), (3, .int v3), (4, .int v4)], [.int v2], 0, 0) 65 2 (fun _ => rfl) h) ?_
            cases b19 : pj_c1 .ne v2 0 with
            | true =>
              have ub19 := pj_u0_neT b19
              refine pj_X_of (fun r h => pj_R_ifT 81 rfl rfl b19 h) ?_
              refine pj_X_of (fun r h => pj_R_to (G, 84, [(2, .int (v2 + Int32.ofInt 1)), (0, .ref 171), (1, .int c), (3, .int v3), (4, .int v4)], [], 0, 0) 84 2 (fun _ => rfl) h) ?_
              obtain ⟨z20, hz20⟩ : ∃ z : Int32, z = v2 + Int32.ofInt 1 := ⟨_, rfl⟩
              rw [← hz20]
              have fz20_0 : z20.toInt = v2.toInt + (Int32.ofInt 1).toInt := by rw [hz20]; exact pj_addI (by have := pj_i32 v2; have := pj_i32 (Int32.ofInt 1); omega) (by have := pj_i32 v2; have := pj_i32 (Int32.ofInt 1); omega)
              refine pj_X_of (fun r h => pj_R_to (G, 87, [(4, .int (v4 + Int32.ofInt 1)), (2, .int z20), (0, .ref 171), (1, .int c), (3, .int v3)], [], 0, 0) 87 2 (fun _ => rfl) h) ?_
              obtain ⟨z21, hz21⟩ : ∃ z : Int32, z = v4 + Int32.ofInt 1 := ⟨_, rfl⟩
              rw [← hz21]
              have fz21_0 : z21.toInt = v4.toInt + (Int32.ofInt 1).toInt := by rw [hz21]; exact pj_addI (by have := pj_i32 v4; have := pj_i32 (Int32.ofInt 1); omega) (by have := pj_i32 v4; have := pj_i32 (Int32.ofInt 1); omega)
              refine pj_X_of (fun r h => pj_R_to (G, 37, [(4, .int z21), (2, .int z20), (0, .ref 171), (1, .int c), (3, .int v3)], [], 0, 0) 37 2 (fun _ => rfl) h) ?_
              have q22 : (pj_fi G 171 1).toInt = y5.toInt := by rw [show pj_fi G 171 1 = y5 from hy5.symm]
              exact pj_X_sub [(0, .ref 171), (1, .int c), (2, .int z20), (3, .int v3), (4, .int z21)] (show List.Nodup [0, 1, 2, 3, 4] by decide) ⟨rfl, rfl, rfl, rfl, rfl, trivial⟩ (ih.2 G hI hK z20 v3 z21 ⟨by omega, by omega⟩ ⟨by omega, by omega⟩ ⟨by omega, by omega⟩ (pj_rem_s x0_ (by omega) (by omega) hz21 (Or.inl ⟨pj_andT (pj_b2_t ey10 (by omega)) (pj_b2_t ey15 (by omega)), hz20⟩)) (by omega) (by omega) (by omega) (by omega) (by omega))
            | false =>
              have ub19 := pj_u0_neF b19
              refine pj_X_of (fun r h => pj_R_ifF rfl b19 h) ?_
              refine pj_X_of (fun r h => pj_R_to (G, 71, [(0, .ref 171), (1, .int c), (2, .int v2), (3, .int v3), (4, .int v4)], [.long v3.toInt64, .ref 171], 0, 0) 71 4 (fun _ => rfl) h) ?_
              have q23 : (pj_fi G 171 1).toInt = y5.toInt := by rw [show pj_fi G 171 1 = y5 from hy5.symm]
              have lc24 : (v3.toInt64).toInt = v3.toInt := Int32.toInt_toInt64 _
              refine pj_X_ca (vs := [.ref 171, .long v3.toInt64]) rfl (fun _ => rfl) ⟨Nat.le_of_ble_eq_true rfl, Nat.le_of_ble_eq_true rfl, pj_T_rcv hI rfl⟩ ⟨rfl, rfl⟩ (pj_Y_up (by decide) (ct_174f G hI v3.toInt64 (by omega))) ?_
              rintro _ G26 ⟨rfl, iG26, jG26, eG26⟩
              have kG26 : pj_kpt pj_M0 G0 G26 := pj_kpt_t hK (pj_kpt_s jG26 rfl)
              obtain ⟨y27, hy27⟩ : ∃ z : Int32, z = pj_fi G26 171 1 := ⟨_, rfl⟩
              have ey27 : (pj_fi G26 171 1).toInt = y27.toInt := by rw [hy27]
              have ry27 : (0 : Int) ≤ y27.toInt ∧ y27.toInt ≤ 24 := by rw [hy27]; exact iG26.2.1 171 1 (0, 24) rfl
              show pj_X _ _ G26 74 [(0, .ref 171), (1, .int c), (2, .int v2), (3, .int v3), (4, .int v4)] [] _
              refine pj_X_of (fun r h => pj_R_to (G26, 78, [(0, .ref 171), (1, .int c), (2, .int v2), (3, .int v3), (4, .int v4)], [.long v4.toInt64, .ref 171], 0, 0) 78 4 (fun _ => rfl) h) ?_
              have q28 : (pj_fi G26 171 1).toInt = y27.toInt := by rw [show pj_fi G26 171 1 = y27 from hy27.symm]
              have lc29 : (v4.toInt64).toInt = v4.toInt := Int32.toInt_toInt64 _
              refine pj_X_ca (vs := [.ref 171, .long v4.toInt64]) rfl (fun _ => rfl) ⟨Nat.le_of_ble_eq_true rfl, Nat.le_of_ble_eq_true rfl, pj_T_rcv iG26 rfl⟩ ⟨rfl, rfl⟩ (pj_Y_up (by decide) (ct_174f G26 iG26 v4.toInt64 (by omega))) ?_
              rintro _ G31 ⟨rfl, iG31, jG31, eG31⟩
              have kG31 : pj_kpt pj_M0 G0 G31 := pj_kpt_t kG26 (pj_kpt_s jG31 rfl)
              obtain ⟨y32, hy32⟩ : ∃ z : Int32, z = pj_fi G31 171 1 := ⟨_, rfl⟩
              have ey32 : (pj_fi G31 171 1).toInt = y32.toInt := by rw [hy32]
              have ry32 : (0 : Int) ≤ y32.toInt ∧ y32.toInt ≤ 24 := by rw [hy32]; exact iG31.2.1 171 1 (0, 24) rfl
              show pj_X _ _ G31 81 [(0, .ref 171), (1, .int c), (2, .int v2), (3, .int v3), (4, .int v4)] [] _
              refine pj_X_of (fun r h => pj_R_to (G31, 84, [(2, .int (v2 + Int32.ofInt 1)), (0, .ref 171), (1, .int c), (3, .int v3), (4, .int v4)], [], 0, 0) 84 2 (fun _ => rfl) h) ?_
              obtain ⟨z33, hz33⟩ : ∃ z : Int32, z = v2 + Int32.ofInt 1 := ⟨_, rfl⟩
              rw [← hz33]
              have fz33_0 : z33.toInt = v2.toInt + (Int32.ofInt 1).toInt := by rw [hz33]; exact pj_addI (by have := pj_i32 v2; have := pj_i32 (Int32.ofInt 1); omega) (by have := pj_i32 v2; have := pj_i32 (Int32.ofInt 1); omega)
              refine pj_X_of (fun r h => pj_R_to (G31, 87, [(4, .int (v4 + Int32.ofInt 1)), (2, .int z33), (0, .ref 171), (1, .int c), (3, .int v3)], [], 0, 0) 87 2 (fun _ => rfl) h) ?_
              obtain ⟨z34, hz34⟩ : ∃ z : Int32, z = v4 + Int32.ofInt 1 := ⟨_, rfl⟩
              rw [← hz34]
              have fz34_0 : z34.toInt = v4.toInt + (Int32.ofInt 1).toInt := by rw [hz34]; exact pj_addI (by have := pj_i32 v4; have := pj_i32 (Int32.ofInt 1); omega) (by have := pj_i32 v4; have := pj_i32 (Int32.ofInt 1); omega)
              refine pj_X_of (fun r h => pj_R_to (G31, 37, [(4, .int z34), (2, .int z33), (0, .ref 171), (1, .int c), (3, .int v3)], [], 0, 0) 37 2 (fun _ => rfl) h) ?_
              have q35 : (pj_fi G31 171 1).toInt = y32.toInt := by rw [show pj_fi G31 171 1 = y32 from hy32.symm]
              exact pj_X_sub [(0, .ref 171), (1, .int c), (2, .int z33), (3, .int v3), (4, .int z34)] (show List.Nodup [0, 1, 2, 3, 4] by decide) ⟨rfl, rfl, rfl, rfl, rfl, trivial⟩ (ih.2 G31 iG31 kG31 z33 v3 z34 ⟨by omega, by omega⟩ ⟨by omega, by omega⟩ ⟨by omega, by omega⟩ (pj_rem_s x0_ (by omega) (by omega) hz34 (Or.inl ⟨pj_andT (pj_b2_t ey10 (by omega)) (pj_b2_t ey15 (by omega)), hz33⟩)) (by omega) (by omega) (by omega) (by omega) (by omega))
theorem ct_275f (G0 : pj_G) (hI : pj_Inv G0) (c : Int32) : pj_Y 5 275 [.ref 171, .int c] G0 (fun v G' => ∃ y : Int32, v = some (.int y) ∧ pj_Inv G' ∧ pj_kpt pj_M0 G0 G' ∧ ((-2147483648 : Int) ≤ y.toInt ∧ y.toInt ≤ 2147483647) ∧ ((0 ≤ c.toInt ∧ c.toInt ≤ 9 → y = pj_out (pj_okMr c) 9 (Int32.ofInt 1) (Int32.ofInt 0)) ∧ (c.toInt < 0 ∨ 9 < c.toInt → y = Int32.ofInt (-1)))) := by
  have c0_ : ((Int8.ofInt 9).toInt32).toInt = 9 := by decide
  have c1_ : (Int32.ofInt (-1)).toInt = -1 := by decide
  have c2_ : (Int32.ofInt 0).toInt = 0 := by decide
  have c3_ : (Int32.ofInt 1).toInt = 1 := by decide
  refine pj_Y_X (M := pj_m275) rfl rfl (Nat.le_of_ble_eq_true rfl) ?_
  have hK : pj_kpt pj_M0 G0 G0 := pj_kpt_r _ _
  show pj_X _ _ G0 0 [(0, .ref 171), (1, .int c)] [] _
  obtain ⟨y36, hy36⟩ : ∃ z : Int32, z = pj_fi G0 171 1 := ⟨_, rfl⟩
  have ey36 : (pj_fi G0 171 1).toInt = y36.toInt := by rw [hy36]
  have ry36 : (0 : Int) ≤ y36.toInt ∧ y36.toInt ≤ 24 := by rw [hy36]; exact hI.2.1 171 1 (0, 24) rfl
  refine pj_X_of (fun r h => pj_R_to (G0, 2, [(0, .ref 171), (1, .int c)], [.int (Int32.ofInt 0), .ref 171], 0, 0) 2 3 (fun _ => rfl) h) ?_
  refine pj_X_of (fun r h => pj_T_pf hI rfl rfl rfl h) ?_
  show pj_X _ _ (pj_wv G0 171 0 (.int (Int32.ofInt 0))) 5 [(0, .ref 171), (1, .int c)] [] _
  obtain ⟨G37, hG37⟩ : ∃ H, H = pj_wv G0 171 0 (.int (Int32.ofInt 0)) := ⟨_, rfl⟩
  have iG37 : pj_Inv G37 := by rw [hG37]; exact pj_Inv_wi hI (ci := 12) rfl (fun q hq => by cases hq)
  have kG37 : pj_kpt pj_M0 G0 G37 := by rw [hG37]; exact pj_kpt_v hK rfl
  rw [← hG37]
  refine pj_X_of (fun r h => pj_R_to (G37, 11, [(0, .ref 171), (1, .int c)], [.long (Int64.ofInt 9), .long (Int64.ofNat 0), .long c.toInt64], 0, 0) 11 5 (fun _ => rfl) h) ?_
  have q38 : (pj_fi G37 171 1).toInt = y36.toInt := by rw [show pj_fi G37 171 1 = y36 from by rw [hG37, pj_fi_wv_ne _ _ _ _ _ _ (by decide)]; exact hy36.symm]
  have lc39 : (c.toInt64).toInt = c.toInt := Int32.toInt_toInt64 _
  have lc40 : (Int64.ofNat 0).toInt = 0 := by decide
  have lc41 : (Int64.ofInt 9).toInt = 9 := by decide
  refine pj_X_ca (vs := [.long c.toInt64, .long (Int64.ofNat 0), .long (Int64.ofInt 9)]) rfl (fun _ => rfl) ⟨Nat.le_of_ble_eq_true rfl, Nat.le_of_ble_eq_true rfl, rfl⟩ ⟨rfl, rfl⟩ (pj_Y_up (by decide) (ct_170 G37 iG37 c.toInt64 (Int64.ofNat 0) (Int64.ofInt 9))) ?_
  rintro _ _ ⟨y42, rfl, rfl, ry42, ey42⟩
  show pj_X _ _ G37 14 [(0, .ref 171), (1, .int c)] [.int y42] _
  cases b43 : pj_c1 .ne y42 0 with
  | true =>
    have ub43 := pj_u0_neT b43
    refine pj_X_of (fun r h => pj_R_ifT 19 rfl rfl b43 h) ?_
    refine pj_X_of (fun r h => pj_R_to (G37, 23, [(2, .int (Int32.ofInt 0)), (0, .ref 171), (1, .int c)], [.int (Int32.ofInt 0), .ref 171], 0, 0) 23 5 (fun _ => rfl) h) ?_
    refine pj_X_of (fun r h => pj_T_pf iG37 rfl rfl rfl h) ?_
    show pj_X _ _ (pj_wv G37 171 1 (.int (Int32.ofInt 0))) 26 [(2, .int (Int32.ofInt 0)), (0, .ref 171), (1, .int c)] [] _
    obtain ⟨G44, hG44⟩ : ∃ H, H = pj_wv G37 171 1 (.int (Int32.ofInt 0)) := ⟨_, rfl⟩
    have iG44 : pj_Inv G44 := by rw [hG44]; exact pj_Inv_wi iG37 (ci := 12) rfl (fun q hq => by cases hq; exact ⟨by show (0 : Int) ≤ _; omega, by show _ ≤ (24 : Int); omega⟩)
    have kG44 : pj_kpt pj_M0 G0 G44 := by rw [hG44]; exact pj_kpt_v kG37 rfl
    rw [← hG44]
    refine pj_X_of (fun r h => pj_R_to (G44, 28, [(3, .int (Int32.ofInt 1)), (2, .int (Int32.ofInt 0)), (0, .ref 171), (1, .int c)], [], 0, 0) 28 3 (fun _ => rfl) h) ?_
    have q45 : (pj_fi G44 171 1).toInt = (Int32.ofInt 0).toInt := by rw [show pj_fi G44 171 1 = Int32.ofInt 0 from by rw [hG44]; exact pj_fi_wi iG37.1 (ci := 12) rfl _]
    exact pj_X_sub [(0, .ref 171), (1, .int c), (2, .int (Int32.ofInt 0)), (3, .int (Int32.ofInt 1))] (show List.Nodup [0, 1, 2, 3] by decide) ⟨rfl, rfl, rfl, rfl, trivial⟩ ((lp_ct_275f G0 hI c  401).1 G44 iG44 kG44 (Int32.ofInt 0) (Int32.ofInt 1) ⟨by omega, by omega⟩ ⟨by omega, by omega⟩ rfl (by omega) (by omega) (by omega) (by omega) (by omega))
  | false =>
    have ub43 := pj_u0_neF b43
    refine pj_X_of (fun r h => pj_R_ifF rfl b43 h) ?_
    refine pj_X_of (fun r h => pj_R_to (G37, 18, [(0, .ref 171), (1, .int c)], [.int (Int32.ofInt (-1))], 0, 0) 18 2 (fun _ => rfl) h) ?_
    have q46 : (pj_fi G37 171 1).toInt = y36.toInt := by rw [show pj_fi G37 171 1 = y36 from by rw [hG37, pj_fi_wv_ne _ _ _ _ _ _ (by decide)]; exact hy36.symm]
    exact pj_X_rt rfl rfl ⟨_, rfl, iG37, kG37, pj_i32 _, ⟨fun q => by exfalso; omega, fun _ => rfl⟩⟩
