/-! SHARE AND TURN OF THE REFERENCE -/
def pj_ob (G : pj_G) (a : Nat) (fs : List Value) : pj_G := pj_put G a (.inr (12, fs))
section PJR3
variable {C : Nat → pj_F} {n0 : Nat} {xs : Nat → Int32} {M : pj_M} {r : Option Value × pj_G × Nat × Nat} {G : pj_G} {pc mc ms : Nat} {L : pj_L} {S : List Value}
theorem pj_R_go {idx len : Nat} {inf : List Nat} {z : Int} {a : Nat} {c0 : pj_C} {fs : List Value} {v : Value} (hc : pj_get G a = some c0) (hf : pj_find M.2.2.2.2.2 pc = some (.getfield idx, len, inf, z)) (h12 : 12 = inf.getD 0 0) (hk : fs[inf.getD 1 0]? = some v) (h2 : pj_R C n0 xs M (pj_ob G a fs, pc + 3, L, v :: S, mc, ms) r) : pj_R C n0 xs M (pj_ob G a fs, pc, L, .ref a :: S, mc, ms) r :=
  pj_R_gf hf (by rw [← h12]; exact pj_gp hc) hk h2
theorem pj_R_po {idx len : Nat} {inf : List Nat} {z : Int} {a : Nat} {c0 : pj_C} {fs : List Value} {v : Value} (hc : pj_get G a = some c0) (hf : pj_find M.2.2.2.2.2 pc = some (.putfield idx, len, inf, z)) (h12 : 12 = inf.getD 0 0) (hk : inf.getD 1 0 < fs.length) (hfit : pj_fit (pj_ft (inf.getD 0 0) (inf.getD 1 0)) v = true) (h2 : pj_R C n0 xs M (pj_ob G a (fs.set (inf.getD 1 0) v), pc + 3, L, S, mc, ms) r) : pj_R C n0 xs M (pj_ob G a fs, pc, L, v :: .ref a :: S, mc, ms) r :=
  pj_R_pf hf (by rw [← h12]; exact pj_gp hc) hk hfit (by
    rw [← h12]
    have e : pj_put (pj_ob G a fs) a (.inr (12, fs.set (inf.getD 1 0) v)) = pj_ob G a (fs.set (inf.getD 1 0) v) := pj_pp
    rw [e]
    exact h2)
theorem pj_R_mx {idx len : Nat} {inf : List Nat} {z : Int} {x y v : Int32} (hf : pj_find M.2.2.2.2.2 pc = some (.invokestatic idx, len, inf, z)) (h10 : 10 = inf.getD 0 0) (hv : (if x < y then y else x) = v) (hS : (S.map Value.category).sum ≤ 8) (h2 : pj_R C n0 xs M (G, pc + 3, L, .int v :: S, mc, ms) r) : pj_R C n0 xs M (G, pc, L, .int y :: .int x :: S, mc, ms) r :=
  pj_R_st (t' := (G, pc + 3, L, .int v :: S, 0, 0)) hf (fun call => by
    show (if inf.getD 0 0 = 7 then (pj_cp G (.int y :: .int x :: S)).map (fun r => ((r.1, pc + 3, L, r.2, 0, 0) : pj_T)) else if 10 ≤ inf.getD 0 0 then (pj_mth (inf.getD 0 0) (.int y :: .int x :: S)).map (fun r => (G, pc + 3, L, r, 0, 0)) else (pj_inv call inf G (.int y :: .int x :: S)).map (fun r => (r.1, pc + 3, L, r.2.1, r.2.2.1, r.2.2.2))) = _
    rw [← h10, if_neg (by decide), if_pos (by decide)]
    show (if (S.map Value.category).sum ≤ 8 then some (Value.int (if x < y then y else x) :: S) else none).map (fun r => ((G, pc + 3, L, r, 0, 0) : pj_T)) = _
    rw [if_pos hS, hv]
    rfl) h2
end PJR3
def pj_w4 (fs : List Value) (a b c d : Int32) : List Value := (((fs.set 52 (.int a)).set 53 (.int b)).set 54 (.int c)).set 55 (.int d)
theorem pj_w4_len (fs : List Value) (a b c d : Int32) : (pj_w4 fs a b c d).length = fs.length := by
  unfold pj_w4
  simp only [List.length_set]
theorem pj_w4_52 {fs : List Value} (hl : fs.length = 60) (a b c d : Int32) : (pj_w4 fs a b c d)[52]? = some (.int a) := by
  unfold pj_w4
  rw [List.getElem?_set_ne (by decide), List.getElem?_set_ne (by decide), List.getElem?_set_ne (by decide), List.getElem?_set_self (by rw [hl]; decide)]
theorem pj_w4_53 {fs : List Value} (hl : fs.length = 60) (a b c d : Int32) : (pj_w4 fs a b c d)[53]? = some (.int b) := by
  unfold pj_w4
  rw [List.getElem?_set_ne (by decide), List.getElem?_set_ne (by decide), List.getElem?_set_self (by rw [List.length_set, hl]; decide)]
theorem pj_w4_54 {fs : List Value} (hl : fs.length = 60) (a b c d : Int32) : (pj_w4 fs a b c d)[54]? = some (.int c) := by
  unfold pj_w4
  rw [List.getElem?_set_ne (by decide), List.getElem?_set_self (by rw [List.length_set, List.length_set, hl]; decide)]
theorem pj_w4_55 {fs : List Value} (hl : fs.length = 60) (a b c d : Int32) : (pj_w4 fs a b c d)[55]? = some (.int d) := by
  unfold pj_w4
  rw [List.getElem?_set_self (by rw [List.length_set, List.length_set, List.length_set, hl]; decide)]
theorem pj_w4_lo (fs : List Value) (a b c d : Int32) {j : Nat} (hj : j < 52) : (pj_w4 fs a b c d)[j]? = fs[j]? := by
  unfold pj_w4
  rw [List.getElem?_set_ne (by omega), List.getElem?_set_ne (by omega), List.getElem?_set_ne (by omega), List.getElem?_set_ne (by omega)]
theorem pj_w4_s52 (fs : List Value) (a b c d x : Int32) : (pj_w4 fs a b c d).set 52 (.int x) = pj_w4 fs x b c d := by
  unfold pj_w4
  rw [List.set_comm _ _ (by decide : (55 : Nat) ≠ 52), List.set_comm _ _ (by decide : (54 : Nat) ≠ 52), List.set_comm _ _ (by decide : (53 : Nat) ≠ 52), List.set_set]
theorem pj_w4_s53 (fs : List Value) (a b c d x : Int32) : (pj_w4 fs a b c d).set 53 (.int x) = pj_w4 fs a x c d := by
  unfold pj_w4
  rw [List.set_comm _ _ (by decide : (55 : Nat) ≠ 53), List.set_comm _ _ (by decide : (54 : Nat) ≠ 53), List.set_set]
theorem pj_w4_s54 (fs : List Value) (a b c d x : Int32) : (pj_w4 fs a b c d).set 54 (.int x) = pj_w4 fs a b x d := by
  unfold pj_w4
  rw [List.set_comm _ _ (by decide : (55 : Nat) ≠ 54), List.set_set]
theorem pj_w4_s55 (fs : List Value) (a b c d x : Int32) : (pj_w4 fs a b c d).set 55 (.int x) = pj_w4 fs a b c x := by
  unfold pj_w4
  rw [List.set_set]
theorem pj_flagE (G : pj_G) (b : Bool) : pj_E (pj_cx 1) 173 [.int (pj_b2 b)] G (some (.int (pj_b2 b)), G, 0, 0) := by
  refine pj_E_R (M := pj_m173) rfl rfl (Nat.le_of_ble_eq_true rfl) ?_
  show pj_R _ _ _ _ (G, 0, [(0, .int (pj_b2 b))], [], 0, 0) _
  cases b with
  | true =>
    refine pj_R_to (G, 1, [(0, .int (pj_b2 true))], [.int (pj_b2 true)], 0, 0) 1 2 (fun _ => rfl) ?_
    refine pj_R_ifF rfl (by decide) ?_
    refine pj_R_to (G, 9, [(0, .int (pj_b2 true))], [.int (Int32.ofInt 1)], 0, 0) 9 3 (fun _ => rfl) ?_
    exact pj_R_rt rfl rfl
  | false =>
    refine pj_R_to (G, 1, [(0, .int (pj_b2 false))], [.int (pj_b2 false)], 0, 0) 1 2 (fun _ => rfl) ?_
    refine pj_R_ifT 8 rfl rfl (by decide) ?_
    refine pj_R_to (G, 9, [(0, .int (pj_b2 false))], [.int (Int32.ofInt 0)], 0, 0) 9 2 (fun _ => rfl) ?_
    exact pj_R_rt rfl rfl
theorem pj_lc_ge {x y : Int64} (h : y.toInt ≤ x.toInt) : pj_c1 .lt (lg_cmp x y) 0 = false := by
  have e := (pj_lc3_s (x := (x.toInt, x.toInt)) (y := (y.toInt, y.toInt)) (u := x) (v := y) ⟨Int.le_refl _, Int.le_refl _⟩ ⟨Int.le_refl _, Int.le_refl _⟩).1
  simp only [pj_c1, decide_eq_false_iff_not, Int32.lt_iff_toInt_lt, pj_lz0]
  unfold pj_lc3 at e
  dsimp only at e
  split at e <;> (try split at e) <;> omega
theorem pj_lc_le2 {x y : Int64} (h : x.toInt ≤ y.toInt) : pj_c1 .gt (lg_cmp x y) 0 = false := by
  have e := (pj_lc3_s (x := (x.toInt, x.toInt)) (y := (y.toInt, y.toInt)) (u := x) (v := y) ⟨Int.le_refl _, Int.le_refl _⟩ ⟨Int.le_refl _, Int.le_refl _⟩).2
  simp only [pj_c1, decide_eq_false_iff_not, Int32.lt_iff_toInt_lt, pj_lz0]
  unfold pj_lc3 at e
  dsimp only at e
  split at e <;> (try split at e) <;> omega
theorem pj_inE (G : pj_G) (x lo hi : Int64) (h1 : lo.toInt ≤ x.toInt) (h2 : x.toInt ≤ hi.toInt) : pj_E (pj_cx 1) 171 [.long x, .long lo, .long hi] G (some (.int (Int32.ofInt 1)), G, 0, 0) := by
  refine pj_E_R (M := pj_m171) rfl rfl (Nat.le_of_ble_eq_true rfl) ?_
  show pj_R _ _ _ _ (G, 0, [(0, .long x), (2, .long lo), (4, .long hi)], [], 0, 0) _
  refine pj_R_to (G, 3, [(0, .long x), (2, .long lo), (4, .long hi)], [.int (lg_cmp x lo)], 0, 0) 3 4 (fun _ => rfl) ?_
  refine pj_R_ifF rfl (pj_lc_ge h1) ?_
  refine pj_R_to (G, 10, [(0, .long x), (2, .long lo), (4, .long hi)], [.int (lg_cmp x hi)], 0, 0) 10 4 (fun _ => rfl) ?_
  refine pj_R_ifF rfl (pj_lc_le2 h2) ?_
  refine pj_R_to (G, 18, [(0, .long x), (2, .long lo), (4, .long hi)], [.int (Int32.ofInt 1)], 0, 0) 18 3 (fun _ => rfl) ?_
  exact pj_R_rt rfl rfl
theorem pj_canE (G : pj_G) (a : Nat) (p q n : Int32) (h1 : 0 ≤ p.toInt ∧ p.toInt ≤ 16777215) (h2 : 0 ≤ q.toInt ∧ q.toInt ≤ 16777215) (h3 : 1 ≤ n.toInt ∧ n.toInt ≤ 48) : pj_E (pj_cx 2) 271 [.ref a, .int p, .int q, .int n] G (some (.int (Int32.ofInt 1)), G, 0, 0) := by
  have z0 : (Int64.ofNat 0).toInt = 0 := by decide
  have z1 : (Int64.ofNat 1).toInt = 1 := by decide
  have z48 : (Int64.ofInt 48).toInt = 48 := by decide
  have zm : (Int32.ofInt 16777215).toInt64.toInt = 16777215 := by decide
  refine pj_E_R (M := pj_m271) rfl rfl (Nat.le_of_ble_eq_true rfl) ?_
  show pj_R _ _ _ _ (G, 0, [(0, .ref a), (1, .int p), (2, .int q), (3, .int n)], [], 0, 0) _
  refine pj_R_to (G, 11, [(4, .int (Int32.ofInt 16777215)), (0, .ref a), (1, .int p), (2, .int q), (3, .int n)], [.long ((Int32.ofInt 16777215).toInt64), .long (Int64.ofNat 0), .long p.toInt64], 0, 0) 11 8 (fun _ => rfl) ?_
  refine pj_R_ca (pj_cx_mon _) (vs := [.long p.toInt64, .long (Int64.ofNat 0), .long ((Int32.ofInt 16777215).toInt64)]) (S2 := [.int (Int32.ofInt 1)]) rfl (fun _ => rfl) ⟨Nat.le_of_ble_eq_true rfl, Nat.le_of_ble_eq_true rfl, rfl⟩ ⟨rfl, rfl, rfl⟩ (pj_inE G _ _ _ (by rw [Int32.toInt_toInt64, z0]; omega) (by rw [Int32.toInt_toInt64, zm]; omega)) ?_
  show pj_R _ _ _ _ (G, 14, [(4, .int (Int32.ofInt 16777215)), (0, .ref a), (1, .int p), (2, .int q), (3, .int n)], [.int (Int32.ofInt 1)], 0, 0) _
  refine pj_R_ifF rfl (by decide) ?_
  refine pj_R_to (G, 23, [(4, .int (Int32.ofInt 16777215)), (0, .ref a), (1, .int p), (2, .int q), (3, .int n)], [.long ((Int32.ofInt 16777215).toInt64), .long (Int64.ofNat 0), .long q.toInt64], 0, 0) 23 6 (fun _ => rfl) ?_
  refine pj_R_ca (pj_cx_mon _) (vs := [.long q.toInt64, .long (Int64.ofNat 0), .long ((Int32.ofInt 16777215).toInt64)]) (S2 := [.int (Int32.ofInt 1)]) rfl (fun _ => rfl) ⟨Nat.le_of_ble_eq_true rfl, Nat.le_of_ble_eq_true rfl, rfl⟩ ⟨rfl, rfl, rfl⟩ (pj_inE G _ _ _ (by rw [Int32.toInt_toInt64, z0]; omega) (by rw [Int32.toInt_toInt64, zm]; omega)) ?_
  show pj_R _ _ _ _ (G, 26, [(4, .int (Int32.ofInt 16777215)), (0, .ref a), (1, .int p), (2, .int q), (3, .int n)], [.int (Int32.ofInt 1)], 0, 0) _
  refine pj_R_ifF rfl (by decide) ?_
  refine pj_R_to (G, 35, [(4, .int (Int32.ofInt 16777215)), (0, .ref a), (1, .int p), (2, .int q), (3, .int n)], [.long (Int64.ofInt 48), .long (Int64.ofNat 1), .long n.toInt64], 0, 0) 35 5 (fun _ => rfl) ?_
  refine pj_R_ca (pj_cx_mon _) (vs := [.long n.toInt64, .long (Int64.ofNat 1), .long (Int64.ofInt 48)]) (S2 := [.int (Int32.ofInt 1)]) rfl (fun _ => rfl) ⟨Nat.le_of_ble_eq_true rfl, Nat.le_of_ble_eq_true rfl, rfl⟩ ⟨rfl, rfl, rfl⟩ (pj_inE G _ _ _ (by rw [Int32.toInt_toInt64, z1]; omega) (by rw [Int32.toInt_toInt64, z48]; omega)) ?_
  show pj_R _ _ _ _ (G, 38, [(4, .int (Int32.ofInt 16777215)), (0, .ref a), (1, .int p), (2, .int q), (3, .int n)], [.int (Int32.ofInt 1)], 0, 0) _
  refine pj_R_ifF rfl (by decide) ?_
  refine pj_R_to (G, 46, [(4, .int (Int32.ofInt 16777215)), (0, .ref a), (1, .int p), (2, .int q), (3, .int n)], [.int (Int32.ofInt 1)], 0, 0) 46 3 (fun _ => rfl) ?_
  exact pj_R_rt rfl rfl
theorem pj_sb1 {G : pj_G} {a : Nat} {c0 : pj_C} {fs : List Value} (hc : pj_get G a = some c0) (hl : fs.length = 60) (isf wa wb : Bool) (h p q n k x : Int32) (hx : fs[52]? = some (.int x)) {r : Option Value × pj_G × Nat × Nat} (h2 : pj_R (pj_cx 1) 0 pj_x0 pj_m270 (pj_ob G a (fs.set 52 (.int (x + pj_b2 (isf && wa)))), 95, [(8, .int (pj_b2 wb)), (7, .int (pj_b2 wa)), (6, .int (pj_b2 isf)), (5, .int h), (0, .ref a), (1, .int p), (2, .int q), (3, .int n), (4, .int k)], [], 0, 0) r) : pj_R (pj_cx 1) 0 pj_x0 pj_m270 (pj_ob G a fs, 68, [(8, .int (pj_b2 wb)), (7, .int (pj_b2 wa)), (6, .int (pj_b2 isf)), (5, .int h), (0, .ref a), (1, .int p), (2, .int q), (3, .int n), (4, .int k)], [], 0, 0) r := by
  cases isf
  case false =>
    cases wa
    case false =>
      refine pj_R_to (pj_ob G a fs, 70, [(8, .int (pj_b2 wb)), (7, .int (pj_b2 false)), (6, .int (pj_b2 false)), (5, .int h), (0, .ref a), (1, .int p), (2, .int q), (3, .int n), (4, .int k)], [.ref a, .ref a], 0, 0) 70 3 (fun _ => rfl) ?_
      refine pj_R_go hc rfl rfl hx ?_
      refine pj_R_to (pj_ob G a fs, 75, [(8, .int (pj_b2 wb)), (7, .int (pj_b2 false)), (6, .int (pj_b2 false)), (5, .int h), (0, .ref a), (1, .int p), (2, .int q), (3, .int n), (4, .int k)], [.int (pj_b2 false), .int x, .ref a], 0, 0) 75 2 (fun _ => rfl) ?_
      refine pj_R_ifT 87 rfl rfl (by decide) ?_
      refine pj_R_to (pj_ob G a fs, 88, [(8, .int (pj_b2 wb)), (7, .int (pj_b2 false)), (6, .int (pj_b2 false)), (5, .int h), (0, .ref a), (1, .int p), (2, .int q), (3, .int n), (4, .int k)], [.int (Int32.ofInt 0), .int x, .ref a], 0, 0) 88 2 (fun _ => rfl) ?_
      refine pj_R_ca (pj_cx_mon _) (vs := [.int (Int32.ofInt 0)]) (S2 := [.int (pj_b2 false), .int x, .ref a]) rfl (fun _ => rfl) ⟨Nat.le_of_ble_eq_true rfl, Nat.le_of_ble_eq_true rfl, rfl⟩ ⟨rfl, rfl, rfl⟩ (pj_flagE _ false) ?_
      show pj_R _ _ _ _ (pj_ob G a fs, 91, [(8, .int (pj_b2 wb)), (7, .int (pj_b2 false)), (6, .int (pj_b2 false)), (5, .int h), (0, .ref a), (1, .int p), (2, .int q), (3, .int n), (4, .int k)], [.int (pj_b2 false), .int x, .ref a], 0, 0) _
      refine pj_R_to (pj_ob G a fs, 92, [(8, .int (pj_b2 wb)), (7, .int (pj_b2 false)), (6, .int (pj_b2 false)), (5, .int h), (0, .ref a), (1, .int p), (2, .int q), (3, .int n), (4, .int k)], [.int (x + (pj_b2 false)), .ref a], 0, 0) 92 2 (fun _ => rfl) ?_
      refine pj_R_po hc rfl rfl (by show 52 < fs.length; rw [hl]; decide) rfl ?_
      show pj_R _ _ _ _ (pj_ob G a (fs.set 52 (.int (x + pj_b2 false))), 95, [(8, .int (pj_b2 wb)), (7, .int (pj_b2 false)), (6, .int (pj_b2 false)), (5, .int h), (0, .ref a), (1, .int p), (2, .int q), (3, .int n), (4, .int k)], [], 0, 0) _
      exact h2
    case true =>
      refine pj_R_to (pj_ob G a fs, 70, [(8, .int (pj_b2 wb)), (7, .int (pj_b2 true)), (6, .int (pj_b2 false)), (5, .int h), (0, .ref a), (1, .int p), (2, .int q), (3, .int n), (4, .int k)], [.ref a, .ref a], 0, 0) 70 3 (fun _ => rfl) ?_
      refine pj_R_go hc rfl rfl hx ?_
      refine pj_R_to (pj_ob G a fs, 75, [(8, .int (pj_b2 wb)), (7, .int (pj_b2 true)), (6, .int (pj_b2 false)), (5, .int h), (0, .ref a), (1, .int p), (2, .int q), (3, .int n), (4, .int k)], [.int (pj_b2 false), .int x, .ref a], 0, 0) 75 2 (fun _ => rfl) ?_
      refine pj_R_ifT 87 rfl rfl (by decide) ?_
      refine pj_R_to (pj_ob G a fs, 88, [(8, .int (pj_b2 wb)), (7, .int (pj_b2 true)), (6, .int (pj_b2 false)), (5, .int h), (0, .ref a), (1, .int p), (2, .int q), (3, .int n), (4, .int k)], [.int (Int32.ofInt 0), .int x, .ref a], 0, 0) 88 2 (fun _ => rfl) ?_
      refine pj_R_ca (pj_cx_mon _) (vs := [.int (Int32.ofInt 0)]) (S2 := [.int (pj_b2 false), .int x, .ref a]) rfl (fun _ => rfl) ⟨Nat.le_of_ble_eq_true rfl, Nat.le_of_ble_eq_true rfl, rfl⟩ ⟨rfl, rfl, rfl⟩ (pj_flagE _ false) ?_
      show pj_R _ _ _ _ (pj_ob G a fs, 91, [(8, .int (pj_b2 wb)), (7, .int (pj_b2 true)), (6, .int (pj_b2 false)), (5, .int h), (0, .ref a), (1, .int p), (2, .int q), (3, .int n), (4, .int k)], [.int (pj_b2 false), .int x, .ref a], 0, 0) _
      refine pj_R_to (pj_ob G a fs, 92, [(8, .int (pj_b2 wb)), (7, .int (pj_b2 true)), (6, .int (pj_b2 false)), (5, .int h), (0, .ref a), (1, .int p), (2, .int q), (3, .int n), (4, .int k)], [.int (x + (pj_b2 false)), .ref a], 0, 0) 92 2 (fun _ => rfl) ?_
      refine pj_R_po hc rfl rfl (by show 52 < fs.length; rw [hl]; decide) rfl ?_
      show pj_R _ _ _ _ (pj_ob G a (fs.set 52 (.int (x + pj_b2 false))), 95, [(8, .int (pj_b2 wb)), (7, .int (pj_b2 true)), (6, .int (pj_b2 false)), (5, .int h), (0, .ref a), (1, .int p), (2, .int q), (3, .int n), (4, .int k)], [], 0, 0) _
      exact h2
  case true =>
    cases wa
    case false =>
      refine pj_R_to (pj_ob G a fs, 70, [(8, .int (pj_b2 wb)), (7, .int (pj_b2 false)), (6, .int (pj_b2 true)), (5, .int h), (0, .ref a), (1, .int p), (2, .int q), (3, .int n), (4, .int k)], [.ref a, .ref a], 0, 0) 70 3 (fun _ => rfl) ?_
      refine pj_R_go hc rfl rfl hx ?_
      refine pj_R_to (pj_ob G a fs, 75, [(8, .int (pj_b2 wb)), (7, .int (pj_b2 false)), (6, .int (pj_b2 true)), (5, .int h), (0, .ref a), (1, .int p), (2, .int q), (3, .int n), (4, .int k)], [.int (pj_b2 true), .int x, .ref a], 0, 0) 75 2 (fun _ => rfl) ?_
      refine pj_R_ifF rfl (by decide) ?_
      refine pj_R_to (pj_ob G a fs, 80, [(8, .int (pj_b2 wb)), (7, .int (pj_b2 false)), (6, .int (pj_b2 true)), (5, .int h), (0, .ref a), (1, .int p), (2, .int q), (3, .int n), (4, .int k)], [.int (pj_b2 false), .int x, .ref a], 0, 0) 80 2 (fun _ => rfl) ?_
      refine pj_R_ifT 87 rfl rfl (by decide) ?_
      refine pj_R_to (pj_ob G a fs, 88, [(8, .int (pj_b2 wb)), (7, .int (pj_b2 false)), (6, .int (pj_b2 true)), (5, .int h), (0, .ref a), (1, .int p), (2, .int q), (3, .int n), (4, .int k)], [.int (Int32.ofInt 0), .int x, .ref a], 0, 0) 88 2 (fun _ => rfl) ?_
      refine pj_R_ca (pj_cx_mon _) (vs := [.int (Int32.ofInt 0)]) (S2 := [.int (pj_b2 false), .int x, .ref a]) rfl (fun _ => rfl) ⟨Nat.le_of_ble_eq_true rfl, Nat.le_of_ble_eq_true rfl, rfl⟩ ⟨rfl, rfl, rfl⟩ (pj_flagE _ false) ?_
      show pj_R _ _ _ _ (pj_ob G a fs, 91, [(8, .int (pj_b2 wb)), (7, .int (pj_b2 false)), (6, .int (pj_b2 true)), (5, .int h), (0, .ref a), (1, .int p), (2, .int q), (3, .int n), (4, .int k)], [.int (pj_b2 false), .int x, .ref a], 0, 0) _
      refine pj_R_to (pj_ob G a fs, 92, [(8, .int (pj_b2 wb)), (7, .int (pj_b2 false)), (6, .int (pj_b2 true)), (5, .int h), (0, .ref a), (1, .int p), (2, .int q), (3, .int n), (4, .int k)], [.int (x + (pj_b2 false)), .ref a], 0, 0) 92 2 (fun _ => rfl) ?_
      refine pj_R_po hc rfl rfl (by show 52 < fs.length; rw [hl]; decide) rfl ?_
      show pj_R _ _ _ _ (pj_ob G a (fs.set 52 (.int (x + pj_b2 false))), 95, [(8, .int (pj_b2 wb)), (7, .int (pj_b2 false)), (6, .int (pj_b2 true)), (5, .int h), (0, .ref a), (1, .int p), (2, .int q), (3, .int n), (4, .int k)], [], 0, 0) _
      exact h2
    case true =>
      refine pj_R_to (pj_ob G a fs, 70, [(8, .int (pj_b2 wb)), (7, .int (pj_b2 true)), (6, .int (pj_b2 true)), (5, .int h), (0, .ref a), (1, .int p), (2, .int q), (3, .int n), (4, .int k)], [.ref a, .ref a], 0, 0) 70 3 (fun _ => rfl) ?_
      refine pj_R_go hc rfl rfl hx ?_
      refine pj_R_to (pj_ob G a fs, 75, [(8, .int (pj_b2 wb)), (7, .int (pj_b2 true)), (6, .int (pj_b2 true)), (5, .int h), (0, .ref a), (1, .int p), (2, .int q), (3, .int n), (4, .int k)], [.int (pj_b2 true), .int x, .ref a], 0, 0) 75 2 (fun _ => rfl) ?_
      refine pj_R_ifF rfl (by decide) ?_
      refine pj_R_to (pj_ob G a fs, 80, [(8, .int (pj_b2 wb)), (7, .int (pj_b2 true)), (6, .int (pj_b2 true)), (5, .int h), (0, .ref a), (1, .int p), (2, .int q), (3, .int n), (4, .int k)], [.int (pj_b2 true), .int x, .ref a], 0, 0) 80 2 (fun _ => rfl) ?_
      refine pj_R_ifF rfl (by decide) ?_
      refine pj_R_to (pj_ob G a fs, 88, [(8, .int (pj_b2 wb)), (7, .int (pj_b2 true)), (6, .int (pj_b2 true)), (5, .int h), (0, .ref a), (1, .int p), (2, .int q), (3, .int n), (4, .int k)], [.int (Int32.ofInt 1), .int x, .ref a], 0, 0) 88 3 (fun _ => rfl) ?_
      refine pj_R_ca (pj_cx_mon _) (vs := [.int (Int32.ofInt 1)]) (S2 := [.int (pj_b2 true), .int x, .ref a]) rfl (fun _ => rfl) ⟨Nat.le_of_ble_eq_true rfl, Nat.le_of_ble_eq_true rfl, rfl⟩ ⟨rfl, rfl, rfl⟩ (pj_flagE _ true) ?_
      show pj_R _ _ _ _ (pj_ob G a fs, 91, [(8, .int (pj_b2 wb)), (7, .int (pj_b2 true)), (6, .int (pj_b2 true)), (5, .int h), (0, .ref a), (1, .int p), (2, .int q), (3, .int n), (4, .int k)], [.int (pj_b2 true), .int x, .ref a], 0, 0) _
      refine pj_R_to (pj_ob G a fs, 92, [(8, .int (pj_b2 wb)), (7, .int (pj_b2 true)), (6, .int (pj_b2 true)), (5, .int h), (0, .ref a), (1, .int p), (2, .int q), (3, .int n), (4, .int k)], [.int (x + (pj_b2 true)), .ref a], 0, 0) 92 2 (fun _ => rfl) ?_
      refine pj_R_po hc rfl rfl (by show 52 < fs.length; rw [hl]; decide) rfl ?_
      show pj_R _ _ _ _ (pj_ob G a (fs.set 52 (.int (x + pj_b2 true))), 95, [(8, .int (pj_b2 wb)), (7, .int (pj_b2 true)), (6, .int (pj_b2 true)), (5, .int h), (0, .ref a), (1, .int p), (2, .int q), (3, .int n), (4, .int k)], [], 0, 0) _
      exact h2
theorem pj_sb2 {G : pj_G} {a : Nat} {c0 : pj_C} {fs : List Value} (hc : pj_get G a = some c0) (hl : fs.length = 60) (isf wa wb : Bool) (h p q n k x : Int32) (hx : fs[53]? = some (.int x)) {r : Option Value × pj_G × Nat × Nat} (h2 : pj_R (pj_cx 1) 0 pj_x0 pj_m270 (pj_ob G a (fs.set 53 (.int (x + pj_b2 (!isf && wb)))), 122, [(8, .int (pj_b2 wb)), (7, .int (pj_b2 wa)), (6, .int (pj_b2 isf)), (5, .int h), (0, .ref a), (1, .int p), (2, .int q), (3, .int n), (4, .int k)], [], 0, 0) r) : pj_R (pj_cx 1) 0 pj_x0 pj_m270 (pj_ob G a fs, 95, [(8, .int (pj_b2 wb)), (7, .int (pj_b2 wa)), (6, .int (pj_b2 isf)), (5, .int h), (0, .ref a), (1, .int p), (2, .int q), (3, .int n), (4, .int k)], [], 0, 0) r := by
  cases isf
  case false =>
    cases wb
    case false =>
      refine pj_R_to (pj_ob G a fs, 97, [(8, .int (pj_b2 false)), (7, .int (pj_b2 wa)), (6, .int (pj_b2 false)), (5, .int h), (0, .ref a), (1, .int p), (2, .int q), (3, .int n), (4, .int k)], [.ref a, .ref a], 0, 0) 97 3 (fun _ => rfl) ?_
      refine pj_R_go hc rfl rfl hx ?_
      refine pj_R_to (pj_ob G a fs, 102, [(8, .int (pj_b2 false)), (7, .int (pj_b2 wa)), (6, .int (pj_b2 false)), (5, .int h), (0, .ref a), (1, .int p), (2, .int q), (3, .int n), (4, .int k)], [.int (pj_b2 false), .int x, .ref a], 0, 0) 102 2 (fun _ => rfl) ?_
      refine pj_R_ifF rfl (by decide) ?_
      refine pj_R_to (pj_ob G a fs, 107, [(8, .int (pj_b2 false)), (7, .int (pj_b2 wa)), (6, .int (pj_b2 false)), (5, .int h), (0, .ref a), (1, .int p), (2, .int q), (3, .int n), (4, .int k)], [.int (pj_b2 false), .int x, .ref a], 0, 0) 107 2 (fun _ => rfl) ?_
      refine pj_R_ifT 114 rfl rfl (by decide) ?_
      refine pj_R_to (pj_ob G a fs, 115, [(8, .int (pj_b2 false)), (7, .int (pj_b2 wa)), (6, .int (pj_b2 false)), (5, .int h), (0, .ref a), (1, .int p), (2, .int q), (3, .int n), (4, .int k)], [.int (Int32.ofInt 0), .int x, .ref a], 0, 0) 115 2 (fun _ => rfl) ?_
      refine pj_R_ca (pj_cx_mon _) (vs := [.int (Int32.ofInt 0)]) (S2 := [.int (pj_b2 false), .int x, .ref a]) rfl (fun _ => rfl) ⟨Nat.le_of_ble_eq_true rfl, Nat.le_of_ble_eq_true rfl, rfl⟩ ⟨rfl, rfl, rfl⟩ (pj_flagE _ false) ?_
      show pj_R _ _ _ _ (pj_ob G a fs, 118, [(8, .int (pj_b2 false)), (7, .int (pj_b2 wa)), (6, .int (pj_b2 false)), (5, .int h), (0, .ref a), (1, .int p), (2, .int q), (3, .int n), (4, .int k)], [.int (pj_b2 false), .int x, .ref a], 0, 0) _
      refine pj_R_to (pj_ob G a fs, 119, [(8, .int (pj_b2 false)), (7, .int (pj_b2 wa)), (6, .int (pj_b2 false)), (5, .int h), (0, .ref a), (1, .int p), (2, .int q), (3, .int n), (4, .int k)], [.int (x + (pj_b2 false)), .ref a], 0, 0) 119 2 (fun _ => rfl) ?_
      refine pj_R_po hc rfl rfl (by show 53 < fs.length; rw [hl]; decide) rfl ?_
      show pj_R _ _ _ _ (pj_ob G a (fs.set 53 (.int (x + pj_b2 false))), 122, [(8, .int (pj_b2 false)), (7, .int (pj_b2 wa)), (6, .int (pj_b2 false)), (5, .int h), (0, .ref a), (1, .int p), (2, .int q), (3, .int n), (4, .int k)], [], 0, 0) _
      exact h2
    case true =>
      refine pj_R_to (pj_ob G a fs, 97, [(8, .int (pj_b2 true)), (7, .int (pj_b2 wa)), (6, .int (pj_b2 false)), (5, .int h), (0, .ref a), (1, .int p), (2, .int q), (3, .int n), (4, .int k)], [.ref a, .ref a], 0, 0) 97 3 (fun _ => rfl) ?_
      refine pj_R_go hc rfl rfl hx ?_
      refine pj_R_to (pj_ob G a fs, 102, [(8, .int (pj_b2 true)), (7, .int (pj_b2 wa)), (6, .int (pj_b2 false)), (5, .int h), (0, .ref a), (1, .int p), (2, .int q), (3, .int n), (4, .int k)], [.int (pj_b2 false), .int x, .ref a], 0, 0) 102 2 (fun _ => rfl) ?_
      refine pj_R_ifF rfl (by decide) ?_
      refine pj_R_to (pj_ob G a fs, 107, [(8, .int (pj_b2 true)), (7, .int (pj_b2 wa)), (6, .int (pj_b2 false)), (5, .int h), (0, .ref a), (1, .int p), (2, .int q), (3, .int n), (4, .int k)], [.int (pj_b2 true), .int x, .ref a], 0, 0) 107 2 (fun _ => rfl) ?_
      refine pj_R_ifF rfl (by decide) ?_
      refine pj_R_to (pj_ob G a fs, 115, [(8, .int (pj_b2 true)), (7, .int (pj_b2 wa)), (6, .int (pj_b2 false)), (5, .int h), (0, .ref a), (1, .int p), (2, .int q), (3, .int n), (4, .int k)], [.int (Int32.ofInt 1), .int x, .ref a], 0, 0) 115 3 (fun _ => rfl) ?_
      refine pj_R_ca (pj_cx_mon _) (vs := [.int (Int32.ofInt 1)]) (S2 := [.int (pj_b2 true), .int x, .ref a]) rfl (fun _ => rfl) ⟨Nat.le_of_ble_eq_true rfl, Nat.le_of_ble_eq_true rfl, rfl⟩ ⟨rfl, rfl, rfl⟩ (pj_flagE _ true) ?_
      show pj_R _ _ _ _ (pj_ob G a fs, 118, [(8, .int (pj_b2 true)), (7, .int (pj_b2 wa)), (6, .int (pj_b2 false)), (5, .int h), (0, .ref a), (1, .int p), (2, .int q), (3, .int n), (4, .int k)], [.int (pj_b2 true), .int x, .ref a], 0, 0) _
      refine pj_R_to (pj_ob G a fs, 119, [(8, .int (pj_b2 true)), (7, .int (pj_b2 wa)), (6, .int (pj_b2 false)), (5, .int h), (0, .ref a), (1, .int p), (2, .int q), (3, .int n), (4, .int k)], [.int (x + (pj_b2 true)), .ref a], 0, 0) 119 2 (fun _ => rfl) ?_
      refine pj_R_po hc rfl rfl (by show 53 < fs.length; rw [hl]; decide) rfl ?_
      show pj_R _ _ _ _ (pj_ob G a (fs.set 53 (.int (x + pj_b2 true))), 122, [(8, .int (pj_b2 true)), (7, .int (pj_b2 wa)), (6, .int (pj_b2 false)), (5, .int h), (0, .ref a), (1, .int p), (2, .int q), (3, .int n), (4, .int k)], [], 0, 0) _
      exact h2
  case true =>
    cases wb
    case false =>
      refine pj_R_to (pj_ob G a fs, 97, [(8, .int (pj_b2 false)), (7, .int (pj_b2 wa)), (6, .int (pj_b2 true)), (5, .int h), (0, .ref a), (1, .int p), (2, .int q), (3, .int n), (4, .int k)], [.ref a, .ref a], 0, 0) 97 3 (fun _ => rfl) ?_
      refine pj_R_go hc rfl rfl hx ?_
      refine pj_R_to (pj_ob G a fs, 102, [(8, .int (pj_b2 false)), (7, .int (pj_b2 wa)), (6, .int (pj_b2 true)), (5, .int h), (0, .ref a), (1, .int p), (2, .int q), (3, .int n), (4, .int k)], [.int (pj_b2 true), .int x, .ref a], 0, 0) 102 2 (fun _ => rfl) ?_
      refine pj_R_ifT 114 rfl rfl (by decide) ?_
      refine pj_R_to (pj_ob G a fs, 115, [(8, .int (pj_b2 false)), (7, .int (pj_b2 wa)), (6, .int (pj_b2 true)), (5, .int h), (0, .ref a), (1, .int p), (2, .int q), (3, .int n), (4, .int k)], [.int (Int32.ofInt 0), .int x, .ref a], 0, 0) 115 2 (fun _ => rfl) ?_
      refine pj_R_ca (pj_cx_mon _) (vs := [.int (Int32.ofInt 0)]) (S2 := [.int (pj_b2 false), .int x, .ref a]) rfl (fun _ => rfl) ⟨Nat.le_of_ble_eq_true rfl, Nat.le_of_ble_eq_true rfl, rfl⟩ ⟨rfl, rfl, rfl⟩ (pj_flagE _ false) ?_
      show pj_R _ _ _ _ (pj_ob G a fs, 118, [(8, .int (pj_b2 false)), (7, .int (pj_b2 wa)), (6, .int (pj_b2 true)), (5, .int h), (0, .ref a), (1, .int p), (2, .int q), (3, .int n), (4, .int k)], [.int (pj_b2 false), .int x, .ref a], 0, 0) _
      refine pj_R_to (pj_ob G a fs, 119, [(8, .int (pj_b2 false)), (7, .int (pj_b2 wa)), (6, .int (pj_b2 true)), (5, .int h), (0, .ref a), (1, .int p), (2, .int q), (3, .int n), (4, .int k)], [.int (x + (pj_b2 false)), .ref a], 0, 0) 119 2 (fun _ => rfl) ?_
      refine pj_R_po hc rfl rfl (by show 53 < fs.length; rw [hl]; decide) rfl ?_
      show pj_R _ _ _ _ (pj_ob G a (fs.set 53 (.int (x + pj_b2 false))), 122, [(8, .int (pj_b2 false)), (7, .int (pj_b2 wa)), (6, .int (pj_b2 true)), (5, .int h), (0, .ref a), (1, .int p), (2, .int q), (3, .int n), (4, .int k)], [], 0, 0) _
      exact h2
    case true =>
      refine pj_R_to (pj_ob G a fs, 97, [(8, .int (pj_b2 true)), (7, .int (pj_b2 wa)), (6, .int (pj_b2 true)), (5, .int h), (0, .ref a), (1, .int p), (2, .int q), (3, .int n), (4, .int k)], [.ref a, .ref a], 0, 0) 97 3 (fun _ => rfl) ?_
      refine pj_R_go hc rfl rfl hx ?_
      refine pj_R_to (pj_ob G a fs, 102, [(8, .int (pj_b2 true)), (7, .int (pj_b2 wa)), (6, .int (pj_b2 true)), (5, .int h), (0, .ref a), (1, .int p), (2, .int q), (3, .int n), (4, .int k)], [.int (pj_b2 true), .int x, .ref a], 0, 0) 102 2 (fun _ => rfl) ?_
      refine pj_R_ifT 114 rfl rfl (by decide) ?_
      refine pj_R_to (pj_ob G a fs, 115, [(8, .int (pj_b2 true)), (7, .int (pj_b2 wa)), (6, .int (pj_b2 true)), (5, .int h), (0, .ref a), (1, .int p), (2, .int q), (3, .int n), (4, .int k)], [.int (Int32.ofInt 0), .int x, .ref a], 0, 0) 115 2 (fun _ => rfl) ?_
      refine pj_R_ca (pj_cx_mon _) (vs := [.int (Int32.ofInt 0)]) (S2 := [.int (pj_b2 false), .int x, .ref a]) rfl (fun _ => rfl) ⟨Nat.le_of_ble_eq_true rfl, Nat.le_of_ble_eq_true rfl, rfl⟩ ⟨rfl, rfl, rfl⟩ (pj_flagE _ false) ?_
      show pj_R _ _ _ _ (pj_ob G a fs, 118, [(8, .int (pj_b2 true)), (7, .int (pj_b2 wa)), (6, .int (pj_b2 true)), (5, .int h), (0, .ref a), (1, .int p), (2, .int q), (3, .int n), (4, .int k)], [.int (pj_b2 false), .int x, .ref a], 0, 0) _
      refine pj_R_to (pj_ob G a fs, 119, [(8, .int (pj_b2 true)), (7, .int (pj_b2 wa)), (6, .int (pj_b2 true)), (5, .int h), (0, .ref a), (1, .int p), (2, .int q), (3, .int n), (4, .int k)], [.int (x + (pj_b2 false)), .ref a], 0, 0) 119 2 (fun _ => rfl) ?_
      refine pj_R_po hc rfl rfl (by show 53 < fs.length; rw [hl]; decide) rfl ?_
      show pj_R _ _ _ _ (pj_ob G a (fs.set 53 (.int (x + pj_b2 false))), 122, [(8, .int (pj_b2 true)), (7, .int (pj_b2 wa)), (6, .int (pj_b2 true)), (5, .int h), (0, .ref a), (1, .int p), (2, .int q), (3, .int n), (4, .int k)], [], 0, 0) _
      exact h2
theorem pj_sb3 {G : pj_G} {a : Nat} {c0 : pj_C} {fs : List Value} (hc : pj_get G a = some c0) (hl : fs.length = 60) (isf wa wb : Bool) (h p q n k x : Int32) (hx : fs[54]? = some (.int x)) {r : Option Value × pj_G × Nat × Nat} (h2 : pj_R (pj_cx 1) 0 pj_x0 pj_m270 (pj_ob G a (fs.set 54 (.int (x + pj_b2 (!isf && wa)))), 149, [(8, .int (pj_b2 wb)), (7, .int (pj_b2 wa)), (6, .int (pj_b2 isf)), (5, .int h), (0, .ref a), (1, .int p), (2, .int q), (3, .int n), (4, .int k)], [], 0, 0) r) : pj_R (pj_cx 1) 0 pj_x0 pj_m270 (pj_ob G a fs, 122, [(8, .int (pj_b2 wb)), (7, .int (pj_b2 wa)), (6, .int (pj_b2 isf)), (5, .int h), (0, .ref a), (1, .int p), (2, .int q), (3, .int n), (4, .int k)], [], 0, 0) r := by
  cases isf
  case false =>
    cases wa
    case false =>
      refine pj_R_to (pj_ob G a fs, 124, [(8, .int (pj_b2 wb)), (7, .int (pj_b2 false)), (6, .int (pj_b2 false)), (5, .int h), (0, .ref a), (1, .int p), (2, .int q), (3, .int n), (4, .int k)], [.ref a, .ref a], 0, 0) 124 3 (fun _ => rfl) ?_
      refine pj_R_go hc rfl rfl hx ?_
      refine pj_R_to (pj_ob G a fs, 129, [(8, .int (pj_b2 wb)), (7, .int (pj_b2 false)), (6, .int (pj_b2 false)), (5, .int h), (0, .ref a), (1, .int p), (2, .int q), (3, .int n), (4, .int k)], [.int (pj_b2 false), .int x, .ref a], 0, 0) 129 2 (fun _ => rfl) ?_
      refine pj_R_ifF rfl (by decide) ?_
      refine pj_R_to (pj_ob G a fs, 134, [(8, .int (pj_b2 wb)), (7, .int (pj_b2 false)), (6, .int (pj_b2 false)), (5, .int h), (0, .ref a), (1, .int p), (2, .int q), (3, .int n), (4, .int k)], [.int (pj_b2 false), .int x, .ref a], 0, 0) 134 2 (fun _ => rfl) ?_
      refine pj_R_ifT 141 rfl rfl (by decide) ?_
      refine pj_R_to (pj_ob G a fs, 142, [(8, .int (pj_b2 wb)), (7, .int (pj_b2 false)), (6, .int (pj_b2 false)), (5, .int h), (0, .ref a), (1, .int p), (2, .int q), (3, .int n), (4, .int k)], [.int (Int32.ofInt 0), .int x, .ref a], 0, 0) 142 2 (fun _ => rfl) ?_
      refine pj_R_ca (pj_cx_mon _) (vs := [.int (Int32.ofInt 0)]) (S2 := [.int (pj_b2 false), .int x, .ref a]) rfl (fun _ => rfl) ⟨Nat.le_of_ble_eq_true rfl, Nat.le_of_ble_eq_true rfl, rfl⟩ ⟨rfl, rfl, rfl⟩ (pj_flagE _ false) ?_
      show pj_R _ _ _ _ (pj_ob G a fs, 145, [(8, .int (pj_b2 wb)), (7, .int (pj_b2 false)), (6, .int (pj_b2 false)), (5, .int h), (0, .ref a), (1, .int p), (2, .int q), (3, .int n), (4, .int k)], [.int (pj_b2 false), .int x, .ref a], 0, 0) _
      refine pj_R_to (pj_ob G a fs, 146, [(8, .int (pj_b2 wb)), (7, .int (pj_b2 false)), (6, .int (pj_b2 false)), (5, .int h), (0, .ref a), (1, .int p), (2, .int q), (3, .int n), (4, .int k)], [.int (x + (pj_b2 false)), .ref a], 0, 0) 146 2 (fun _ => rfl) ?_
      refine pj_R_po hc rfl rfl (by show 54 < fs.length; rw [hl]; decide) rfl ?_
      show pj_R _ _ _ _ (pj_ob G a (fs.set 54 (.int (x + pj_b2 false))), 149, [(8, .int (pj_b2 wb)), (7, .int (pj_b2 false)), (6, .int (pj_b2 false)), (5, .int h), (0, .ref a), (1, .int p), (2, .int q), (3, .int n), (4, .int k)], [], 0, 0) _
      exact h2
    case true =>
      refine pj_R_to (pj_ob G a fs, 124, [(8, .int (pj_b2 wb)), (7, .int (pj_b2 true)), (6, .int (pj_b2 false)), (5, .int h), (0, .ref a), (1, .int p), (2, .int q), (3, .int n), (4, .int k)], [.ref a, .ref a], 0, 0) 124 3 (fun _ => rfl) ?_
      refine pj_R_go hc rfl rfl hx ?_
      refine pj_R_to (pj_ob G a fs, 129, [(8, .int (pj_b2 wb)), (7, .int (pj_b2 true)), (6, .int (pj_b2 false)), (5, .int h), (0, .ref a), (1, .int p), (2, .int q), (3, .int n), (4, .int k)], [.int (pj_b2 false), .int x, .ref a], 0, 0) 129 2 (fun _ => rfl) ?_
      refine pj_R_ifF rfl (by decide) ?_
      refine pj_R_to (pj_ob G a fs, 134, [(8, .int (pj_b2 wb)), (7, .int (pj_b2 true)), (6, .int (pj_b2 false)), (5, .int h), (0, .ref a), (1, .int p), (2, .int q), (3, .int n), (4, .int k)], [.int (pj_b2 true), .int x, .ref a], 0, 0) 134 2 (fun _ => rfl) ?_
      refine pj_R_ifF rfl (by decide) ?_
      refine pj_R_to (pj_ob G a fs, 142, [(8, .int (pj_b2 wb)), (7, .int (pj_b2 true)), (6, .int (pj_b2 false)), (5, .int h), (0, .ref a), (1, .int p), (2, .int q), (3, .int n), (4, .int k)], [.int (Int32.ofInt 1), .int x, .ref a], 0, 0) 142 3 (fun _ => rfl) ?_
      refine pj_R_ca (pj_cx_mon _) (vs := [.int (Int32.ofInt 1)]) (S2 := [.int (pj_b2 true), .int x, .ref a]) rfl (fun _ => rfl) ⟨Nat.le_of_ble_eq_true rfl, Nat.le_of_ble_eq_true rfl, rfl⟩ ⟨rfl, rfl, rfl⟩ (pj_flagE _ true) ?_
      show pj_R _ _ _ _ (pj_ob G a fs, 145, [(8, .int (pj_b2 wb)), (7, .int (pj_b2 true)), (6, .int (pj_b2 false)), (5, .int h), (0, .ref a), (1, .int p), (2, .int q), (3, .int n), (4, .int k)], [.int (pj_b2 true), .int x, .ref a], 0, 0) _
      refine pj_R_to (pj_ob G a fs, 146, [(8, .int (pj_b2 wb)), (7, .int (pj_b2 true)), (6, .int (pj_b2 false)), (5, .int h), (0, .ref a), (1, .int p), (2, .int q), (3, .int n), (4, .int k)], [.int (x + (pj_b2 true)), .ref a], 0, 0) 146 2 (fun _ => rfl) ?_
      refine pj_R_po hc rfl rfl (by show 54 < fs.length; rw [hl]; decide) rfl ?_
      show pj_R _ _ _ _ (pj_ob G a (fs.set 54 (.int (x + pj_b2 true))), 149, [(8, .int (pj_b2 wb)), (7, .int (pj_b2 true)), (6, .int (pj_b2 false)), (5, .int h), (0, .ref a), (1, .int p), (2, .int q), (3, .int n), (4, .int k)], [], 0, 0) _
      exact h2
  case true =>
    cases wa
    case false =>
      refine pj_R_to (pj_ob G a fs, 124, [(8, .int (pj_b2 wb)), (7, .int (pj_b2 false)), (6, .int (pj_b2 true)), (5, .int h), (0, .ref a), (1, .int p), (2, .int q), (3, .int n), (4, .int k)], [.ref a, .ref a], 0, 0) 124 3 (fun _ => rfl) ?_
      refine pj_R_go hc rfl rfl hx ?_
      refine pj_R_to (pj_ob G a fs, 129, [(8, .int (pj_b2 wb)), (7, .int (pj_b2 false)), (6, .int (pj_b2 true)), (5, .int h), (0, .ref a), (1, .int p), (2, .int q), (3, .int n), (4, .int k)], [.int (pj_b2 true), .int x, .ref a], 0, 0) 129 2 (fun _ => rfl) ?_
      refine pj_R_ifT 141 rfl rfl (by decide) ?_
      refine pj_R_to (pj_ob G a fs, 142, [(8, .int (pj_b2 wb)), (7, .int (pj_b2 false)), (6, .int (pj_b2 true)), (5, .int h), (0, .ref a), (1, .int p), (2, .int q), (3, .int n), (4, .int k)], [.int (Int32.ofInt 0), .int x, .ref a], 0, 0) 142 2 (fun _ => rfl) ?_
      refine pj_R_ca (pj_cx_mon _) (vs := [.int (Int32.ofInt 0)]) (S2 := [.int (pj_b2 false), .int x, .ref a]) rfl (fun _ => rfl) ⟨Nat.le_of_ble_eq_true rfl, Nat.le_of_ble_eq_true rfl, rfl⟩ ⟨rfl, rfl, rfl⟩ (pj_flagE _ false) ?_
      show pj_R _ _ _ _ (pj_ob G a fs, 145, [(8, .int (pj_b2 wb)), (7, .int (pj_b2 false)), (6, .int (pj_b2 true)), (5, .int h), (0, .ref a), (1, .int p), (2, .int q), (3, .int n), (4, .int k)], [.int (pj_b2 false), .int x, .ref a], 0, 0) _
      refine pj_R_to (pj_ob G a fs, 146, [(8, .int (pj_b2 wb)), (7, .int (pj_b2 false)), (6, .int (pj_b2 true)), (5, .int h), (0, .ref a), (1, .int p), (2, .int q), (3, .int n), (4, .int k)], [.int (x + (pj_b2 false)), .ref a], 0, 0) 146 2 (fun _ => rfl) ?_
      refine pj_R_po hc rfl rfl (by show 54 < fs.length; rw [hl]; decide) rfl ?_
      show pj_R _ _ _ _ (pj_ob G a (fs.set 54 (.int (x + pj_b2 false))), 149, [(8, .int (pj_b2 wb)), (7, .int (pj_b2 false)), (6, .int (pj_b2 true)), (5, .int h), (0, .ref a), (1, .int p), (2, .int q), (3, .int n), (4, .int k)], [], 0, 0) _
      exact h2
    case true =>
      refine pj_R_to (pj_ob G a fs, 124, [(8, .int (pj_b2 wb)), (7, .int (pj_b2 true)), (6, .int (pj_b2 true)), (5, .int h), (0, .ref a), (1, .int p), (2, .int q), (3, .int n), (4, .int k)], [.ref a, .ref a], 0, 0) 124 3 (fun _ => rfl) ?_
      refine pj_R_go hc rfl rfl hx ?_
      refine pj_R_to (pj_ob G a fs, 129, [(8, .int (pj_b2 wb)), (7, .int (pj_b2 true)), (6, .int (pj_b2 true)), (5, .int h), (0, .ref a), (1, .int p), (2, .int q), (3, .int n), (4, .int k)], [.int (pj_b2 true), .int x, .ref a], 0, 0) 129 2 (fun _ => rfl) ?_
      refine pj_R_ifT 141 rfl rfl (by decide) ?_
      refine pj_R_to (pj_ob G a fs, 142, [(8, .int (pj_b2 wb)), (7, .int (pj_b2 true)), (6, .int (pj_b2 true)), (5, .int h), (0, .ref a), (1, .int p), (2, .int q), (3, .int n), (4, .int k)], [.int (Int32.ofInt 0), .int x, .ref a], 0, 0) 142 2 (fun _ => rfl) ?_
      refine pj_R_ca (pj_cx_mon _) (vs := [.int (Int32.ofInt 0)]) (S2 := [.int (pj_b2 false), .int x, .ref a]) rfl (fun _ => rfl) ⟨Nat.le_of_ble_eq_true rfl, Nat.le_of_ble_eq_true rfl, rfl⟩ ⟨rfl, rfl, rfl⟩ (pj_flagE _ false) ?_
      show pj_R _ _ _ _ (pj_ob G a fs, 145, [(8, .int (pj_b2 wb)), (7, .int (pj_b2 true)), (6, .int (pj_b2 true)), (5, .int h), (0, .ref a), (1, .int p), (2, .int q), (3, .int n), (4, .int k)], [.int (pj_b2 false), .int x, .ref a], 0, 0) _
      refine pj_R_to (pj_ob G a fs, 146, [(8, .int (pj_b2 wb)), (7, .int (pj_b2 true)), (6, .int (pj_b2 true)), (5, .int h), (0, .ref a), (1, .int p), (2, .int q), (3, .int n), (4, .int k)], [.int (x + (pj_b2 false)), .ref a], 0, 0) 146 2 (fun _ => rfl) ?_
      refine pj_R_po hc rfl rfl (by show 54 < fs.length; rw [hl]; decide) rfl ?_
      show pj_R _ _ _ _ (pj_ob G a (fs.set 54 (.int (x + pj_b2 false))), 149, [(8, .int (pj_b2 wb)), (7, .int (pj_b2 true)), (6, .int (pj_b2 true)), (5, .int h), (0, .ref a), (1, .int p), (2, .int q), (3, .int n), (4, .int k)], [], 0, 0) _
      exact h2
theorem pj_sb4 {G : pj_G} {a : Nat} {c0 : pj_C} {fs : List Value} (hc : pj_get G a = some c0) (hl : fs.length = 60) (isf wa wb : Bool) (h p q n k x : Int32) (hx : fs[55]? = some (.int x)) {r : Option Value × pj_G × Nat × Nat} (h2 : pj_R (pj_cx 1) 0 pj_x0 pj_m270 (pj_ob G a (fs.set 55 (.int (x + pj_b2 (isf && wb)))), 176, [(8, .int (pj_b2 wb)), (7, .int (pj_b2 wa)), (6, .int (pj_b2 isf)), (5, .int h), (0, .ref a), (1, .int p), (2, .int q), (3, .int n), (4, .int k)], [], 0, 0) r) : pj_R (pj_cx 1) 0 pj_x0 pj_m270 (pj_ob G a fs, 149, [(8, .int (pj_b2 wb)), (7, .int (pj_b2 wa)), (6, .int (pj_b2 isf)), (5, .int h), (0, .ref a), (1, .int p), (2, .int q), (3, .int n), (4, .int k)], [], 0, 0) r := by
  cases isf
  case false =>
    cases wb
    case false =>
      refine pj_R_to (pj_ob G a fs, 151, [(8, .int (pj_b2 false)), (7, .int (pj_b2 wa)), (6, .int (pj_b2 false)), (5, .int h), (0, .ref a), (1, .int p), (2, .int q), (3, .int n), (4, .int k)], [.ref a, .ref a], 0, 0) 151 3 (fun _ => rfl) ?_
      refine pj_R_go hc rfl rfl hx ?_
      refine pj_R_to (pj_ob G a fs, 156, [(8, .int (pj_b2 false)), (7, .int (pj_b2 wa)), (6, .int (pj_b2 false)), (5, .int h), (0, .ref a), (1, .int p), (2, .int q), (3, .int n), (4, .int k)], [.int (pj_b2 false), .int x, .ref a], 0, 0) 156 2 (fun _ => rfl) ?_
      refine pj_R_ifT 168 rfl rfl (by decide) ?_
      refine pj_R_to (pj_ob G a fs, 169, [(8, .int (pj_b2 false)), (7, .int (pj_b2 wa)), (6, .int (pj_b2 false)), (5, .int h), (0, .ref a), (1, .int p), (2, .int q), (3, .int n), (4, .int k)], [.int (Int32.ofInt 0), .int x, .ref a], 0, 0) 169 2 (fun _ => rfl) ?_
      refine pj_R_ca (pj_cx_mon _) (vs := [.int (Int32.ofInt 0)]) (S2 := [.int (pj_b2 false), .int x, .ref a]) rfl (fun _ => rfl) ⟨Nat.le_of_ble_eq_true rfl, Nat.le_of_ble_eq_true rfl, rfl⟩ ⟨rfl, rfl, rfl⟩ (pj_flagE _ false) ?_
      show pj_R _ _ _ _ (pj_ob G a fs, 172, [(8, .int (pj_b2 false)), (7, .int (pj_b2 wa)), (6, .int (pj_b2 false)), (5, .int h), (0, .ref a), (1, .int p), (2, .int q), (3, .int n), (4, .int k)], [.int (pj_b2 false), .int x, .ref a], 0, 0) _
      refine pj_R_to (pj_ob G a fs, 173, [(8, .int (pj_b2 false)), (7, .int (pj_b2 wa)), (6, .int (pj_b2 false)), (5, .int h), (0, .ref a), (1, .int p), (2, .int q), (3, .int n), (4, .int k)], [.int (x + (pj_b2 false)), .ref a], 0, 0) 173 2 (fun _ => rfl) ?_
      refine pj_R_po hc rfl rfl (by show 55 < fs.length; rw [hl]; decide) rfl ?_
      show pj_R _ _ _ _ (pj_ob G a (fs.set 55 (.int (x + pj_b2 false))), 176, [(8, .int (pj_b2 false)), (7, .int (pj_b2 wa)), (6, .int (pj_b2 false)), (5, .int h), (0, .ref a), (1, .int p), (2, .int q), (3, .int n), (4, .int k)], [], 0, 0) _
      exact h2
    case true =>
      refine pj_R_to (pj_ob G a fs, 151, [(8, .int (pj_b2 true)), (7, .int (pj_b2 wa)), (6, .int (pj_b2 false)), (5, .int h), (0, .ref a), (1, .int p), (2, .int q), (3, .int n), (4, .int k)], [.ref a, .ref a], 0, 0) 151 3 (fun _ => rfl) ?_
      refine pj_R_go hc rfl rfl hx ?_
      refine pj_R_to (pj_ob G a fs, 156, [(8, .int (pj_b2 true)), (7, .int (pj_b2 wa)), (6, .int (pj_b2 false)), (5, .int h), (0, .ref a), (1, .int p), (2, .int q), (3, .int n), (4, .int k)], [.int (pj_b2 false), .int x, .ref a], 0, 0) 156 2 (fun _ => rfl) ?_
      refine pj_R_ifT 168 rfl rfl (by decide) ?_
      refine pj_R_to (pj_ob G a fs, 169, [(8, .int (pj_b2 true)), (7, .int (pj_b2 wa)), (6, .int (pj_b2 false)), (5, .int h), (0, .ref a), (1, .int p), (2, .int q), (3, .int n), (4, .int k)], [.int (Int32.ofInt 0), .int x, .ref a], 0, 0) 169 2 (fun _ => rfl) ?_
      refine pj_R_ca (pj_cx_mon _) (vs := [.int (Int32.ofInt 0)]) (S2 := [.int (pj_b2 false), .int x, .ref a]) rfl (fun _ => rfl) ⟨Nat.le_of_ble_eq_true rfl, Nat.le_of_ble_eq_true rfl, rfl⟩ ⟨rfl, rfl, rfl⟩ (pj_flagE _ false) ?_
      show pj_R _ _ _ _ (pj_ob G a fs, 172, [(8, .int (pj_b2 true)), (7, .int (pj_b2 wa)), (6, .int (pj_b2 false)), (5, .int h), (0, .ref a), (1, .int p), (2, .int q), (3, .int n), (4, .int k)], [.int (pj_b2 false), .int x, .ref a], 0, 0) _
      refine pj_R_to (pj_ob G a fs, 173, [(8, .int (pj_b2 true)), (7, .int (pj_b2 wa)), (6, .int (pj_b2 false)), (5, .int h), (0, .ref a), (1, .int p), (2, .int q), (3, .int n), (4, .int k)], [.int (x + (pj_b2 false)), .ref a], 0, 0) 173 2 (fun _ => rfl) ?_
      refine pj_R_po hc rfl rfl (by show 55 < fs.length; rw [hl]; decide) rfl ?_
      show pj_R _ _ _ _ (pj_ob G a (fs.set 55 (.int (x + pj_b2 false))), 176, [(8, .int (pj_b2 true)), (7, .int (pj_b2 wa)), (6, .int (pj_b2 false)), (5, .int h), (0, .ref a), (1, .int p), (2, .int q), (3, .int n), (4, .int k)], [], 0, 0) _
      exact h2
  case true =>
    cases wb
    case false =>
      refine pj_R_to (pj_ob G a fs, 151, [(8, .int (pj_b2 false)), (7, .int (pj_b2 wa)), (6, .int (pj_b2 true)), (5, .int h), (0, .ref a), (1, .int p), (2, .int q), (3, .int n), (4, .int k)], [.ref a, .ref a], 0, 0) 151 3 (fun _ => rfl) ?_
      refine pj_R_go hc rfl rfl hx ?_
      refine pj_R_to (pj_ob G a fs, 156, [(8, .int (pj_b2 false)), (7, .int (pj_b2 wa)), (6, .int (pj_b2 true)), (5, .int h), (0, .ref a), (1, .int p), (2, .int q), (3, .int n), (4, .int k)], [.int (pj_b2 true), .int x, .ref a], 0, 0) 156 2 (fun _ => rfl) ?_
      refine pj_R_ifF rfl (by decide) ?_
      refine pj_R_to (pj_ob G a fs, 161, [(8, .int (pj_b2 false)), (7, .int (pj_b2 wa)), (6, .int (pj_b2 true)), (5, .int h), (0, .ref a), (1, .int p), (2, .int q), (3, .int n), (4, .int k)], [.int (pj_b2 false), .int x, .ref a], 0, 0) 161 2 (fun _ => rfl) ?_
      refine pj_R_ifT 168 rfl rfl (by decide) ?_
      refine pj_R_to (pj_ob G a fs, 169, [(8, .int (pj_b2 false)), (7, .int (pj_b2 wa)), (6, .int (pj_b2 true)), (5, .int h), (0, .ref a), (1, .int p), (2, .int q), (3, .int n), (4, .int k)], [.int (Int32.ofInt 0), .int x, .ref a], 0, 0) 169 2 (fun _ => rfl) ?_
      refine pj_R_ca (pj_cx_mon _) (vs := [.int (Int32.ofInt 0)]) (S2 := [.int (pj_b2 false), .int x, .ref a]) rfl (fun _ => rfl) ⟨Nat.le_of_ble_eq_true rfl, Nat.le_of_ble_eq_true rfl, rfl⟩ ⟨rfl, rfl, rfl⟩ (pj_flagE _ false) ?_
      show pj_R _ _ _ _ (pj_ob G a fs, 172, [(8, .int (pj_b2 false)), (7, .int (pj_b2 wa)), (6, .int (pj_b2 true)), (5, .int h), (0, .ref a), (1, .int p), (2, .int q), (3, .int n), (4, .int k)], [.int (pj_b2 false), .int x, .ref a], 0, 0) _
      refine pj_R_to (pj_ob G a fs, 173, [(8, .int (pj_b2 false)), (7, .int (pj_b2 wa)), (6, .int (pj_b2 true)), (5, .int h), (0, .ref a), (1, .int p), (2, .int q), (3, .int n), (4, .int k)], [.int (x + (pj_b2 false)), .ref a], 0, 0) 173 2 (fun _ => rfl) ?_
      refine pj_R_po hc rfl rfl (by show 55 < fs.length; rw [hl]; decide) rfl ?_
      show pj_R _ _ _ _ (pj_ob G a (fs.set 55 (.int (x + pj_b2 false))), 176, [(8, .int (pj_b2 false)), (7, .int (pj_b2 wa)), (6, .int (pj_b2 true)), (5, .int h), (0, .ref a), (1, .int p), (2, .int q), (3, .int n), (4, .int k)], [], 0, 0) _
      exact h2
    case true =>
      refine pj_R_to (pj_ob G a fs, 151, [(8, .int (pj_b2 true)), (7, .int (pj_b2 wa)), (6, .int (pj_b2 true)), (5, .int h), (0, .ref a), (1, .int p), (2, .int q), (3, .int n), (4, .int k)], [.ref a, .ref a], 0, 0) 151 3 (fun _ => rfl) ?_
      refine pj_R_go hc rfl rfl hx ?_
      refine pj_R_to (pj_ob G a fs, 156, [(8, .int (pj_b2 true)), (7, .int (pj_b2 wa)), (6, .int (pj_b2 true)), (5, .int h), (0, .ref a), (1, .int p), (2, .int q), (3, .int n), (4, .int k)], [.int (pj_b2 true), .int x, .ref a], 0, 0) 156 2 (fun _ => rfl) ?_
      refine pj_R_ifF rfl (by decide) ?_
      refine pj_R_to (pj_ob G a fs, 161, [(8, .int (pj_b2 true)), (7, .int (pj_b2 wa)), (6, .int (pj_b2 true)), (5, .int h), (0, .ref a), (1, .int p), (2, .int q), (3, .int n), (4, .int k)], [.int (pj_b2 true), .int x, .ref a], 0, 0) 161 2 (fun _ => rfl) ?_
      refine pj_R_ifF rfl (by decide) ?_
      refine pj_R_to (pj_ob G a fs, 169, [(8, .int (pj_b2 true)), (7, .int (pj_b2 wa)), (6, .int (pj_b2 true)), (5, .int h), (0, .ref a), (1, .int p), (2, .int q), (3, .int n), (4, .int k)], [.int (Int32.ofInt 1), .int x, .ref a], 0, 0) 169 3 (fun _ => rfl) ?_
      refine pj_R_ca (pj_cx_mon _) (vs := [.int (Int32.ofInt 1)]) (S2 := [.int (pj_b2 true), .int x, .ref a]) rfl (fun _ => rfl) ⟨Nat.le_of_ble_eq_true rfl, Nat.le_of_ble_eq_true rfl, rfl⟩ ⟨rfl, rfl, rfl⟩ (pj_flagE _ true) ?_
      show pj_R _ _ _ _ (pj_ob G a fs, 172, [(8, .int (pj_b2 true)), (7, .int (pj_b2 wa)), (6, .int (pj_b2 true)), (5, .int h), (0, .ref a), (1, .int p), (2, .int q), (3, .int n), (4, .int k)], [.int (pj_b2 true), .int x, .ref a], 0, 0) _
      refine pj_R_to (pj_ob G a fs, 173, [(8, .int (pj_b2 true)), (7, .int (pj_b2 wa)), (6, .int (pj_b2 true)), (5, .int h), (0, .ref a), (1, .int p), (2, .int q), (3, .int n), (4, .int k)], [.int (x + (pj_b2 true)), .ref a], 0, 0) 173 2 (fun _ => rfl) ?_
      refine pj_R_po hc rfl rfl (by show 55 < fs.length; rw [hl]; decide) rfl ?_
      show pj_R _ _ _ _ (pj_ob G a (fs.set 55 (.int (x + pj_b2 true))), 176, [(8, .int (pj_b2 true)), (7, .int (pj_b2 wa)), (6, .int (pj_b2 true)), (5, .int h), (0, .ref a), (1, .int p), (2, .int q), (3, .int n), (4, .int k)], [], 0, 0) _
      exact h2
theorem pj_sb_head {G : pj_G} {a : Nat} (fs : List Value) (h p q n k v6 v7 v8 : Int32) (hk : 0 < k.toInt) (hn : h.toInt < n.toInt) {r : Option Value × pj_G × Nat × Nat} (h2 : pj_R (pj_cx 1) 0 pj_x0 pj_m270 (pj_ob G a fs, 68, [(8, .int (pj_b2 (pj_bit q (pj_h24 h)))), (7, .int (pj_b2 (pj_bit p (pj_h24 h)))), (6, .int (pj_b2 (decide (pj_qq2 h k = 0)))), (5, .int h), (0, .ref a), (1, .int p), (2, .int q), (3, .int n), (4, .int k)], [], 0, 0) r) : pj_R (pj_cx 1) 0 pj_x0 pj_m270 (pj_ob G a fs, 23, [(5, .int h), (0, .ref a), (1, .int p), (2, .int q), (3, .int n), (4, .int k)], [], 0, 0) r ∧ pj_R (pj_cx 1) 0 pj_x0 pj_m270 (pj_ob G a fs, 23, [(5, .int h), (8, .int v8), (7, .int v7), (6, .int v6), (0, .ref a), (1, .int p), (2, .int q), (3, .int n), (4, .int k)], [], 0, 0) r := by
  have hk0 : ¬ k = 0 := fun z => by
    rw [z, pj_lz0] at hk
    omega
  have hge : pj_c1 .ge h n = false := by
    simp only [pj_c1, decide_eq_false_iff_not, Int32.le_iff_toInt_le]
    omega
  cases hb : decide (pj_qq2 h k = 0) with
  | true =>
    have hb2 := of_decide_eq_true hb
    rw [hb] at h2
    constructor
    · refine pj_R_to (pj_ob G a fs, 26, [(5, .int h), (0, .ref a), (1, .int p), (2, .int q), (3, .int n), (4, .int k)], [.int n, .int h], 0, 0) 26 3 (fun _ => rfl) ?_
      refine pj_R_icF rfl hge ?_
      refine pj_R_to (pj_ob G a fs, 33, [(5, .int h), (0, .ref a), (1, .int p), (2, .int q), (3, .int n), (4, .int k)], [.int k, .int h], 0, 0) 33 3 (fun _ => rfl) ?_
      refine pj_R_dv rfl hk0 ?_
      refine pj_R_to (pj_ob G a fs, 35, [(5, .int h), (0, .ref a), (1, .int p), (2, .int q), (3, .int n), (4, .int k)], [.int (Int32.ofInt 2), .int (h / k)], 0, 0) 35 2 (fun _ => rfl) ?_
      refine pj_R_rm rfl (by decide) ?_
      refine pj_R_ifF rfl (decide_eq_false (fun z => z hb2)) ?_
      refine pj_R_to (pj_ob G a fs, 51, [(6, .int (Int32.ofInt 1)), (5, .int h), (0, .ref a), (1, .int p), (2, .int q), (3, .int n), (4, .int k)], [.int ((Int8.ofInt 24).toInt32), .int h, .int p], 0, 0) 51 7 (fun _ => rfl) ?_
      refine pj_R_rm rfl (by decide) ?_
      refine pj_R_ca (pj_cx_mon _) (vs := [.int p, .int (h - h / ((Int8.ofInt 24).toInt32) * ((Int8.ofInt 24).toInt32))]) (S2 := [.int (pj_b2 (pj_bit p (pj_h24 h)))]) rfl (fun _ => rfl) ⟨Nat.le_of_ble_eq_true rfl, Nat.le_of_ble_eq_true rfl, rfl⟩ ⟨rfl, rfl, rfl⟩ (pj_hasM _ p (pj_h24 h)) ?_
      show pj_R _ _ _ _ (pj_ob G a fs, 55, [(6, .int (Int32.ofInt 1)), (5, .int h), (0, .ref a), (1, .int p), (2, .int q), (3, .int n), (4, .int k)], [.int (pj_b2 (pj_bit p (pj_h24 h)))], 0, 0) _
      refine pj_R_to (pj_ob G a fs, 62, [(7, .int (pj_b2 (pj_bit p (pj_h24 h)))), (6, .int (Int32.ofInt 1)), (5, .int h), (0, .ref a), (1, .int p), (2, .int q), (3, .int n), (4, .int k)], [.int ((Int8.ofInt 24).toInt32), .int h, .int q], 0, 0) 62 5 (fun _ => rfl) ?_
      refine pj_R_rm rfl (by decide) ?_
      refine pj_R_ca (pj_cx_mon _) (vs := [.int q, .int (h - h / ((Int8.ofInt 24).toInt32) * ((Int8.ofInt 24).toInt32))]) (S2 := [.int (pj_b2 (pj_bit q (pj_h24 h)))]) rfl (fun _ => rfl) ⟨Nat.le_of_ble_eq_true rfl, Nat.le_of_ble_eq_true rfl, rfl⟩ ⟨rfl, rfl, rfl⟩ (pj_hasM _ q (pj_h24 h)) ?_
      show pj_R _ _ _ _ (pj_ob G a fs, 66, [(7, .int (pj_b2 (pj_bit p (pj_h24 h)))), (6, .int (Int32.ofInt 1)), (5, .int h), (0, .ref a), (1, .int p), (2, .int q), (3, .int n), (4, .int k)], [.int (pj_b2 (pj_bit q (pj_h24 h)))], 0, 0) _
      refine pj_R_to (pj_ob G a fs, 68, [(8, .int (pj_b2 (pj_bit q (pj_h24 h)))), (7, .int (pj_b2 (pj_bit p (pj_h24 h)))), (6, .int (Int32.ofInt 1)), (5, .int h), (0, .ref a), (1, .int p), (2, .int q), (3, .int n), (4, .int k)], [], 0, 0) 68 2 (fun _ => rfl) ?_
      exact h2
    · refine pj_R_to (pj_ob G a fs, 26, [(5, .int h), (8, .int v8), (7, .int v7), (6, .int v6), (0, .ref a), (1, .int p), (2, .int q), (3, .int n), (4, .int k)], [.int n, .int h], 0, 0) 26 3 (fun _ => rfl) ?_
      refine pj_R_icF rfl hge ?_
      refine pj_R_to (pj_ob G a fs, 33, [(5, .int h), (8, .int v8), (7, .int v7), (6, .int v6), (0, .ref a), (1, .int p), (2, .int q), (3, .int n), (4, .int k)], [.int k, .int h], 0, 0) 33 3 (fun _ => rfl) ?_
      refine pj_R_dv rfl hk0 ?_
      refine pj_R_to (pj_ob G a fs, 35, [(5, .int h), (8, .int v8), (7, .int v7), (6, .int v6), (0, .ref a), (1, .int p), (2, .int q), (3, .int n), (4, .int k)], [.int (Int32.ofInt 2), .int (h / k)], 0, 0) 35 2 (fun _ => rfl) ?_
      refine pj_R_rm rfl (by decide) ?_
      refine pj_R_ifF rfl (decide_eq_false (fun z => z hb2)) ?_
      refine pj_R_to (pj_ob G a fs, 51, [(6, .int (Int32.ofInt 1)), (5, .int h), (8, .int v8), (7, .int v7), (0, .ref a), (1, .int p), (2, .int q), (3, .int n), (4, .int k)], [.int ((Int8.ofInt 24).toInt32), .int h, .int p], 0, 0) 51 7 (fun _ => rfl) ?_
      refine pj_R_rm rfl (by decide) ?_
      refine pj_R_ca (pj_cx_mon _) (vs := [.int p, .int (h - h / ((Int8.ofInt 24).toInt32) * ((Int8.ofInt 24).toInt32))]) (S2 := [.int (pj_b2 (pj_bit p (pj_h24 h)))]) rfl (fun _ => rfl) ⟨Nat.le_of_ble_eq_true rfl, Nat.le_of_ble_eq_true rfl, rfl⟩ ⟨rfl, rfl, rfl⟩ (pj_hasM _ p (pj_h24 h)) ?_
      show pj_R _ _ _ _ (pj_ob G a fs, 55, [(6, .int (Int32.ofInt 1)), (5, .int h), (8, .int v8), (7, .int v7), (0, .ref a), (1, .int p), (2, .int q), (3, .int n), (4, .int k)], [.int (pj_b2 (pj_bit p (pj_h24 h)))], 0, 0) _
      refine pj_R_to (pj_ob G a fs, 62, [(7, .int (pj_b2 (pj_bit p (pj_h24 h)))), (6, .int (Int32.ofInt 1)), (5, .int h), (8, .int v8), (0, .ref a), (1, .int p), (2, .int q), (3, .int n), (4, .int k)], [.int ((Int8.ofInt 24).toInt32), .int h, .int q], 0, 0) 62 5 (fun _ => rfl) ?_
      refine pj_R_rm rfl (by decide) ?_
      refine pj_R_ca (pj_cx_mon _) (vs := [.int q, .int (h - h / ((Int8.ofInt 24).toInt32) * ((Int8.ofInt 24).toInt32))]) (S2 := [.int (pj_b2 (pj_bit q (pj_h24 h)))]) rfl (fun _ => rfl) ⟨Nat.le_of_ble_eq_true rfl, Nat.le_of_ble_eq_true rfl, rfl⟩ ⟨rfl, rfl, rfl⟩ (pj_hasM _ q (pj_h24 h)) ?_
      show pj_R _ _ _ _ (pj_ob G a fs, 66, [(7, .int (pj_b2 (pj_bit p (pj_h24 h)))), (6, .int (Int32.ofInt 1)), (5, .int h), (8, .int v8), (0, .ref a), (1, .int p), (2, .int q), (3, .int n), (4, .int k)], [.int (pj_b2 (pj_bit q (pj_h24 h)))], 0, 0) _
      refine pj_R_to (pj_ob G a fs, 68, [(8, .int (pj_b2 (pj_bit q (pj_h24 h)))), (7, .int (pj_b2 (pj_bit p (pj_h24 h)))), (6, .int (Int32.ofInt 1)), (5, .int h), (0, .ref a), (1, .int p), (2, .int q), (3, .int n), (4, .int k)], [], 0, 0) 68 2 (fun _ => rfl) ?_
      exact h2
  | false =>
    have hb2 := of_decide_eq_false hb
    rw [hb] at h2
    constructor
    · refine pj_R_to (pj_ob G a fs, 26, [(5, .int h), (0, .ref a), (1, .int p), (2, .int q), (3, .int n), (4, .int k)], [.int n, .int h], 0, 0) 26 3 (fun _ => rfl) ?_
      refine pj_R_icF rfl hge ?_
      refine pj_R_to (pj_ob G a fs, 33, [(5, .int h), (0, .ref a), (1, .int p), (2, .int q), (3, .int n), (4, .int k)], [.int k, .int h], 0, 0) 33 3 (fun _ => rfl) ?_
      refine pj_R_dv rfl hk0 ?_
      refine pj_R_to (pj_ob G a fs, 35, [(5, .int h), (0, .ref a), (1, .int p), (2, .int q), (3, .int n), (4, .int k)], [.int (Int32.ofInt 2), .int (h / k)], 0, 0) 35 2 (fun _ => rfl) ?_
      refine pj_R_rm rfl (by decide) ?_
      refine pj_R_ifT 43 rfl rfl (decide_eq_true hb2) ?_
      refine pj_R_to (pj_ob G a fs, 51, [(6, .int (Int32.ofInt 0)), (5, .int h), (0, .ref a), (1, .int p), (2, .int q), (3, .int n), (4, .int k)], [.int ((Int8.ofInt 24).toInt32), .int h, .int p], 0, 0) 51 6 (fun _ => rfl) ?_
      refine pj_R_rm rfl (by decide) ?_
      refine pj_R_ca (pj_cx_mon _) (vs := [.int p, .int (h - h / ((Int8.ofInt 24).toInt32) * ((Int8.ofInt 24).toInt32))]) (S2 := [.int (pj_b2 (pj_bit p (pj_h24 h)))]) rfl (fun _ => rfl) ⟨Nat.le_of_ble_eq_true rfl, Nat.le_of_ble_eq_true rfl, rfl⟩ ⟨rfl, rfl, rfl⟩ (pj_hasM _ p (pj_h24 h)) ?_
      show pj_R _ _ _ _ (pj_ob G a fs, 55, [(6, .int (Int32.ofInt 0)), (5, .int h), (0, .ref a), (1, .int p), (2, .int q), (3, .int n), (4, .int k)], [.int (pj_b2 (pj_bit p (pj_h24 h)))], 0, 0) _
      refine pj_R_to (pj_ob G a fs, 62, [(7, .int (pj_b2 (pj_bit p (pj_h24 h)))), (6, .int (Int32.ofInt 0)), (5, .int h), (0, .ref a), (1, .int p), (2, .int q), (3, .int n), (4, .int k)], [.int ((Int8.ofInt 24).toInt32), .int h, .int q], 0, 0) 62 5 (fun _ => rfl) ?_
      refine pj_R_rm rfl (by decide) ?_
      refine pj_R_ca (pj_cx_mon _) (vs := [.int q, .int (h - h / ((Int8.ofInt 24).toInt32) * ((Int8.ofInt 24).toInt32))]) (S2 := [.int (pj_b2 (pj_bit q (pj_h24 h)))]) rfl (fun _ => rfl) ⟨Nat.le_of_ble_eq_true rfl, Nat.le_of_ble_eq_true rfl, rfl⟩ ⟨rfl, rfl, rfl⟩ (pj_hasM _ q (pj_h24 h)) ?_
      show pj_R _ _ _ _ (pj_ob G a fs, 66, [(7, .int (pj_b2 (pj_bit p (pj_h24 h)))), (6, .int (Int32.ofInt 0)), (5, .int h), (0, .ref a), (1, .int p), (2, .int q), (3, .int n), (4, .int k)], [.int (pj_b2 (pj_bit q (pj_h24 h)))], 0, 0) _
      refine pj_R_to (pj_ob G a fs, 68, [(8, .int (pj_b2 (pj_bit q (pj_h24 h)))), (7, .int (pj_b2 (pj_bit p (pj_h24 h)))), (6, .int (Int32.ofInt 0)), (5, .int h), (0, .ref a), (1, .int p), (2, .int q), (3, .int n), (4, .int k)], [], 0, 0) 68 2 (fun _ => rfl) ?_
      exact h2
    · refine pj_R_to (pj_ob G a fs, 26, [(5, .int h), (8, .int v8), (7, .int v7), (6, .int v6), (0, .ref a), (1, .int p), (2, .int q), (3, .int n), (4, .int k)], [.int n, .int h], 0, 0) 26 3 (fun _ => rfl) ?_
      refine pj_R_icF rfl hge ?_
      refine pj_R_to (pj_ob G a fs, 33, [(5, .int h), (8, .int v8), (7, .int v7), (6, .int v6), (0, .ref a), (1, .int p), (2, .int q), (3, .int n), (4, .int k)], [.int k, .int h], 0, 0) 33 3 (fun _ => rfl) ?_
      refine pj_R_dv rfl hk0 ?_
      refine pj_R_to (pj_ob G a fs, 35, [(5, .int h), (8, .int v8), (7, .int v7), (6, .int v6), (0, .ref a), (1, .int p), (2, .int q), (3, .int n), (4, .int k)], [.int (Int32.ofInt 2), .int (h / k)], 0, 0) 35 2 (fun _ => rfl) ?_
      refine pj_R_rm rfl (by decide) ?_
      refine pj_R_ifT 43 rfl rfl (decide_eq_true hb2) ?_
      refine pj_R_to (pj_ob G a fs, 51, [(6, .int (Int32.ofInt 0)), (5, .int h), (8, .int v8), (7, .int v7), (0, .ref a), (1, .int p), (2, .int q), (3, .int n), (4, .int k)], [.int ((Int8.ofInt 24).toInt32), .int h, .int p], 0, 0) 51 6 (fun _ => rfl) ?_
      refine pj_R_rm rfl (by decide) ?_
      refine pj_R_ca (pj_cx_mon _) (vs := [.int p, .int (h - h / ((Int8.ofInt 24).toInt32) * ((Int8.ofInt 24).toInt32))]) (S2 := [.int (pj_b2 (pj_bit p (pj_h24 h)))]) rfl (fun _ => rfl) ⟨Nat.le_of_ble_eq_true rfl, Nat.le_of_ble_eq_true rfl, rfl⟩ ⟨rfl, rfl, rfl⟩ (pj_hasM _ p (pj_h24 h)) ?_
      show pj_R _ _ _ _ (pj_ob G a fs, 55, [(6, .int (Int32.ofInt 0)), (5, .int h), (8, .int v8), (7, .int v7), (0, .ref a), (1, .int p), (2, .int q), (3, .int n), (4, .int k)], [.int (pj_b2 (pj_bit p (pj_h24 h)))], 0, 0) _
      refine pj_R_to (pj_ob G a fs, 62, [(7, .int (pj_b2 (pj_bit p (pj_h24 h)))), (6, .int (Int32.ofInt 0)), (5, .int h), (8, .int v8), (0, .ref a), (1, .int p), (2, .int q), (3, .int n), (4, .int k)], [.int ((Int8.ofInt 24).toInt32), .int h, .int q], 0, 0) 62 5 (fun _ => rfl) ?_
      refine pj_R_rm rfl (by decide) ?_
      refine pj_R_ca (pj_cx_mon _) (vs := [.int q, .int (h - h / ((Int8.ofInt 24).toInt32) * ((Int8.ofInt 24).toInt32))]) (S2 := [.int (pj_b2 (pj_bit q (pj_h24 h)))]) rfl (fun _ => rfl) ⟨Nat.le_of_ble_eq_true rfl, Nat.le_of_ble_eq_true rfl, rfl⟩ ⟨rfl, rfl, rfl⟩ (pj_hasM _ q (pj_h24 h)) ?_
      show pj_R _ _ _ _ (pj_ob G a fs, 66, [(7, .int (pj_b2 (pj_bit p (pj_h24 h)))), (6, .int (Int32.ofInt 0)), (5, .int h), (8, .int v8), (0, .ref a), (1, .int p), (2, .int q), (3, .int n), (4, .int k)], [.int (pj_b2 (pj_bit q (pj_h24 h)))], 0, 0) _
      refine pj_R_to (pj_ob G a fs, 68, [(8, .int (pj_b2 (pj_bit q (pj_h24 h)))), (7, .int (pj_b2 (pj_bit p (pj_h24 h)))), (6, .int (Int32.ofInt 0)), (5, .int h), (0, .ref a), (1, .int p), (2, .int q), (3, .int n), (4, .int k)], [], 0, 0) 68 2 (fun _ => rfl) ?_
      exact h2
def pj_mc (f : Int32 → Bool) : Nat → Int32 → Int32 → Int32
  | 0, _, x => x
  | d + 1, h, x => pj_mc f d (h + Int32.ofInt 1) (x + pj_b2 (f h))
def pj_fy1 (p k h : Int32) : Bool := decide (pj_qq2 h k = 0) && pj_bit p (pj_h24 h)
def pj_fy2 (p k h : Int32) : Bool := !decide (pj_qq2 h k = 0) && pj_bit p (pj_h24 h)
theorem pj_sb_loop {G : pj_G} {a : Nat} {c0 : pj_C} {fs : List Value} (hc : pj_get G a = some c0) (hl : fs.length = 60) (p q n k : Int32) (hk : 0 < k.toInt) : ∀ (d : Nat) (h x1 x2 x3 x4 : Int32), n.toInt - h.toInt = (d : Int) + 1 → pj_R (pj_cx 1) 0 pj_x0 pj_m270 (pj_ob G a (pj_w4 fs x1 x2 x3 x4), 68, [(8, .int (pj_b2 (pj_bit q (pj_h24 h)))), (7, .int (pj_b2 (pj_bit p (pj_h24 h)))), (6, .int (pj_b2 (decide (pj_qq2 h k = 0)))), (5, .int h), (0, .ref a), (1, .int p), (2, .int q), (3, .int n), (4, .int k)], [], 0, 0) (none, pj_ob G a (pj_w4 fs (pj_mc (pj_fy1 p k) (d + 1) h x1) (pj_mc (pj_fy2 q k) (d + 1) h x2) (pj_mc (pj_fy2 p k) (d + 1) h x3) (pj_mc (pj_fy1 q k) (d + 1) h x4)), 0, 0) := by
  intro d
  induction d with
  | zero =>
    intro h x1 x2 x3 x4 hd
    have hge : pj_c1 .ge (h + Int32.ofInt 1) n = true := by
      simp only [pj_c1, decide_eq_true_eq, Int32.le_iff_toInt_le, pj_inc (show h.toInt < n.toInt by omega)]
      omega
    refine pj_sb1 hc (by rw [pj_w4_len, hl]) _ _ _ h p q n k x1 (pj_w4_52 hl _ _ _ _) ?_
    rw [pj_w4_s52]
    refine pj_sb2 hc (by rw [pj_w4_len, hl]) _ _ _ h p q n k x2 (pj_w4_53 hl _ _ _ _) ?_
    rw [pj_w4_s53]
    refine pj_sb3 hc (by rw [pj_w4_len, hl]) _ _ _ h p q n k x3 (pj_w4_54 hl _ _ _ _) ?_
    rw [pj_w4_s54]
    refine pj_sb4 hc (by rw [pj_w4_len, hl]) _ _ _ h p q n k x4 (pj_w4_55 hl _ _ _ _) ?_
    rw [pj_w4_s55]
    show pj_R _ _ _ _ (pj_ob G a (pj_w4 fs (x1 + pj_b2 (pj_fy1 p k h)) (x2 + pj_b2 (pj_fy2 q k h)) (x3 + pj_b2 (pj_fy2 p k h)) (x4 + pj_b2 (pj_fy1 q k h))), 176, _, _, _, _) (none, pj_ob G a (pj_w4 fs (x1 + pj_b2 (pj_fy1 p k h)) (x2 + pj_b2 (pj_fy2 q k h)) (x3 + pj_b2 (pj_fy2 p k h)) (x4 + pj_b2 (pj_fy1 q k h))), 0, 0)
    generalize pj_w4 fs (x1 + pj_b2 (pj_fy1 p k h)) (x2 + pj_b2 (pj_fy2 q k h)) (x3 + pj_b2 (pj_fy2 p k h)) (x4 + pj_b2 (pj_fy1 q k h)) = gs
    generalize pj_b2 (pj_bit q (pj_h24 h)) = v8
    generalize pj_b2 (pj_bit p (pj_h24 h)) = v7
    generalize pj_b2 (decide (pj_qq2 h k = 0)) = v6
    refine pj_R_to (pj_ob G a gs, 26, [(5, .int (h + Int32.ofInt 1)), (8, .int v8), (7, .int v7), (6, .int v6), (0, .ref a), (1, .int p), (2, .int q), (3, .int n), (4, .int k)], [.int n, .int (h + Int32.ofInt 1)], 0, 0) 26 5 (fun _ => rfl) ?_
    refine pj_R_icT 182 rfl rfl hge ?_
    exact pj_R_rt rfl rfl
  | succ d ih =>
    intro h x1 x2 x3 x4 hd
    have hlt : (h + Int32.ofInt 1).toInt < n.toInt := by
      rw [pj_inc (show h.toInt < n.toInt by omega)]
      omega
    have hn2 : n.toInt - (h + Int32.ofInt 1).toInt = (d : Int) + 1 := by
      rw [pj_inc (show h.toInt < n.toInt by omega)]
      omega
    refine pj_sb1 hc (by rw [pj_w4_len, hl]) _ _ _ h p q n k x1 (pj_w4_52 hl _ _ _ _) ?_
    rw [pj_w4_s52]
    refine pj_sb2 hc (by rw [pj_w4_len, hl]) _ _ _ h p q n k x2 (pj_w4_53 hl _ _ _ _) ?_
    rw [pj_w4_s53]
    refine pj_sb3 hc (by rw [pj_w4_len, hl]) _ _ _ h p q n k x3 (pj_w4_54 hl _ _ _ _) ?_
    rw [pj_w4_s54]
    refine pj_sb4 hc (by rw [pj_w4_len, hl]) _ _ _ h p q n k x4 (pj_w4_55 hl _ _ _ _) ?_
    rw [pj_w4_s55]
    have ih2 := ih (h + Int32.ofInt 1) (x1 + pj_b2 (pj_fy1 p k h)) (x2 + pj_b2 (pj_fy2 q k h)) (x3 + pj_b2 (pj_fy2 p k h)) (x4 + pj_b2 (pj_fy1 q k h)) hn2
    have ih3 := fun v6 v7 v8 => (pj_sb_head _ (h + Int32.ofInt 1) p q n k v6 v7 v8 hk hlt ih2).2
    show pj_R _ _ _ _ (pj_ob G a (pj_w4 fs (x1 + pj_b2 (pj_fy1 p k h)) (x2 + pj_b2 (pj_fy2 q k h)) (x3 + pj_b2 (pj_fy2 p k h)) (x4 + pj_b2 (pj_fy1 q k h))), 176, _, _, _, _) (none, pj_ob G a (pj_w4 fs (pj_mc (pj_fy1 p k) (d + 1) (h + Int32.ofInt 1) (x1 + pj_b2 (pj_fy1 p k h))) (pj_mc (pj_fy2 q k) (d + 1) (h + Int32.ofInt 1) (x2 + pj_b2 (pj_fy2 q k h))) (pj_mc (pj_fy2 p k) (d + 1) (h + Int32.ofInt 1) (x3 + pj_b2 (pj_fy2 p k h))) (pj_mc (pj_fy1 q k) (d + 1) (h + Int32.ofInt 1) (x4 + pj_b2 (pj_fy1 q k h)))), 0, 0)
    clear ih ih2
    generalize ((none, pj_ob G a (pj_w4 fs (pj_mc (pj_fy1 p k) (d + 1) (h + Int32.ofInt 1) (x1 + pj_b2 (pj_fy1 p k h))) (pj_mc (pj_fy2 q k) (d + 1) (h + Int32.ofInt 1) (x2 + pj_b2 (pj_fy2 q k h))) (pj_mc (pj_fy2 p k) (d + 1) (h + Int32.ofInt 1) (x3 + pj_b2 (pj_fy2 p k h))) (pj_mc (pj_fy1 q k) (d + 1) (h + Int32.ofInt 1) (x4 + pj_b2 (pj_fy1 q k h)))), 0, 0) : Option Value × pj_G × Nat × Nat) = rr at *
    generalize pj_w4 fs (x1 + pj_b2 (pj_fy1 p k h)) (x2 + pj_b2 (pj_fy2 q k h)) (x3 + pj_b2 (pj_fy2 p k h)) (x4 + pj_b2 (pj_fy1 q k h)) = gs at *
    generalize pj_b2 (pj_bit q (pj_h24 h)) = v8
    generalize pj_b2 (pj_bit p (pj_h24 h)) = v7
    generalize pj_b2 (decide (pj_qq2 h k = 0)) = v6
    refine pj_R_to (pj_ob G a gs, 23, [(5, .int (h + Int32.ofInt 1)), (8, .int v8), (7, .int v7), (6, .int v6), (0, .ref a), (1, .int p), (2, .int q), (3, .int n), (4, .int k)], [], 0, 0) 23 3 (fun _ => rfl) ?_
    exact ih3 _ _ _
