/-! COMPARISONS, NUMBERS -/
theorem pj_b_eqT {x y : Int32} (h : x.toInt = y.toInt) : pj_c1 .eq x y = true := by
  simp only [pj_c1, decide_eq_true_eq, decide_eq_false_iff_not, ← Int32.toInt_inj, Int32.lt_iff_toInt_lt, Int32.le_iff_toInt_le]
  omega
theorem pj_b_eqF {x y : Int32} (h : ¬ x.toInt = y.toInt) : pj_c1 .eq x y = false := by
  simp only [pj_c1, decide_eq_true_eq, decide_eq_false_iff_not, ← Int32.toInt_inj, Int32.lt_iff_toInt_lt, Int32.le_iff_toInt_le]
  omega
theorem pj_u_eqT {x y : Int32} (h : pj_c1 .eq x y = true) : x.toInt = y.toInt := by
  simp only [pj_c1, decide_eq_true_eq, decide_eq_false_iff_not, ← Int32.toInt_inj, Int32.lt_iff_toInt_lt, Int32.le_iff_toInt_le] at h
  omega
theorem pj_u_eqF {x y : Int32} (h : pj_c1 .eq x y = false) : ¬ x.toInt = y.toInt := by
  simp only [pj_c1, decide_eq_true_eq, decide_eq_false_iff_not, ← Int32.toInt_inj, Int32.lt_iff_toInt_lt, Int32.le_iff_toInt_le] at h
  omega
theorem pj_b0_eqT {x : Int32} (h : x.toInt = 0) : pj_c1 .eq x 0 = true := by
  simp only [pj_c1, decide_eq_true_eq, decide_eq_false_iff_not, ← Int32.toInt_inj, Int32.lt_iff_toInt_lt, Int32.le_iff_toInt_le, pj_lz0]
  omega
theorem pj_b0_eqF {x : Int32} (h : ¬ x.toInt = 0) : pj_c1 .eq x 0 = false := by
  simp only [pj_c1, decide_eq_true_eq, decide_eq_false_iff_not, ← Int32.toInt_inj, Int32.lt_iff_toInt_lt, Int32.le_iff_toInt_le, pj_lz0]
  omega
theorem pj_u0_eqT {x : Int32} (h : pj_c1 .eq x 0 = true) : x.toInt = 0 := by
  simp only [pj_c1, decide_eq_true_eq, decide_eq_false_iff_not, ← Int32.toInt_inj, Int32.lt_iff_toInt_lt, Int32.le_iff_toInt_le, pj_lz0] at h
  omega
theorem pj_u0_eqF {x : Int32} (h : pj_c1 .eq x 0 = false) : ¬ x.toInt = 0 := by
  simp only [pj_c1, decide_eq_true_eq, decide_eq_false_iff_not, ← Int32.toInt_inj, Int32.lt_iff_toInt_lt, Int32.le_iff_toInt_le, pj_lz0] at h
  omega
theorem pj_b_neT {x y : Int32} (h : ¬ x.toInt = y.toInt) : pj_c1 .ne x y = true := by
  simp only [pj_c1, decide_eq_true_eq, decide_eq_false_iff_not, ← Int32.toInt_inj, Int32.lt_iff_toInt_lt, Int32.le_iff_toInt_le]
  omega
theorem pj_b_neF {x y : Int32} (h : x.toInt = y.toInt) : pj_c1 .ne x y = false := by
  simp only [pj_c1, decide_eq_true_eq, decide_eq_false_iff_not, ← Int32.toInt_inj, Int32.lt_iff_toInt_lt, Int32.le_iff_toInt_le]
  omega
theorem pj_u_neT {x y : Int32} (h : pj_c1 .ne x y = true) : ¬ x.toInt = y.toInt := by
  simp only [pj_c1, decide_eq_true_eq, decide_eq_false_iff_not, ← Int32.toInt_inj, Int32.lt_iff_toInt_lt, Int32.le_iff_toInt_le] at h
  omega
theorem pj_u_neF {x y : Int32} (h : pj_c1 .ne x y = false) : x.toInt = y.toInt := by
  simp only [pj_c1, decide_eq_true_eq, decide_eq_false_iff_not, ← Int32.toInt_inj, Int32.lt_iff_toInt_lt, Int32.le_iff_toInt_le] at h
  omega
theorem pj_b0_neT {x : Int32} (h : ¬ x.toInt = 0) : pj_c1 .ne x 0 = true := by
  simp only [pj_c1, decide_eq_true_eq, decide_eq_false_iff_not, ← Int32.toInt_inj, Int32.lt_iff_toInt_lt, Int32.le_iff_toInt_le, pj_lz0]
  omega
theorem pj_b0_neF {x : Int32} (h : x.toInt = 0) : pj_c1 .ne x 0 = false := by
  simp only [pj_c1, decide_eq_true_eq, decide_eq_false_iff_not, ← Int32.toInt_inj, Int32.lt_iff_toInt_lt, Int32.le_iff_toInt_le, pj_lz0]
  omega
theorem pj_u0_neT {x : Int32} (h : pj_c1 .ne x 0 = true) : ¬ x.toInt = 0 := by
  simp only [pj_c1, decide_eq_true_eq, decide_eq_false_iff_not, ← Int32.toInt_inj, Int32.lt_iff_toInt_lt, Int32.le_iff_toInt_le, pj_lz0] at h
  omega
theorem pj_u0_neF {x : Int32} (h : pj_c1 .ne x 0 = false) : x.toInt = 0 := by
  simp only [pj_c1, decide_eq_true_eq, decide_eq_false_iff_not, ← Int32.toInt_inj, Int32.lt_iff_toInt_lt, Int32.le_iff_toInt_le, pj_lz0] at h
  omega
theorem pj_b_ltT {x y : Int32} (h : x.toInt < y.toInt) : pj_c1 .lt x y = true := by
  simp only [pj_c1, decide_eq_true_eq, decide_eq_false_iff_not, ← Int32.toInt_inj, Int32.lt_iff_toInt_lt, Int32.le_iff_toInt_le]
  omega
theorem pj_b_ltF {x y : Int32} (h : y.toInt ≤ x.toInt) : pj_c1 .lt x y = false := by
  simp only [pj_c1, decide_eq_true_eq, decide_eq_false_iff_not, ← Int32.toInt_inj, Int32.lt_iff_toInt_lt, Int32.le_iff_toInt_le]
  omega
theorem pj_u_ltT {x y : Int32} (h : pj_c1 .lt x y = true) : x.toInt < y.toInt := by
  simp only [pj_c1, decide_eq_true_eq, decide_eq_false_iff_not, ← Int32.toInt_inj, Int32.lt_iff_toInt_lt, Int32.le_iff_toInt_le] at h
  omega
theorem pj_u_ltF {x y : Int32} (h : pj_c1 .lt x y = false) : y.toInt ≤ x.toInt := by
  simp only [pj_c1, decide_eq_true_eq, decide_eq_false_iff_not, ← Int32.toInt_inj, Int32.lt_iff_toInt_lt, Int32.le_iff_toInt_le] at h
  omega
theorem pj_b0_ltT {x : Int32} (h : x.toInt < 0) : pj_c1 .lt x 0 = true := by
  simp only [pj_c1, decide_eq_true_eq, decide_eq_false_iff_not, ← Int32.toInt_inj, Int32.lt_iff_toInt_lt, Int32.le_iff_toInt_le, pj_lz0]
  omega
theorem pj_b0_ltF {x : Int32} (h : 0 ≤ x.toInt) : pj_c1 .lt x 0 = false := by
  simp only [pj_c1, decide_eq_true_eq, decide_eq_false_iff_not, ← Int32.toInt_inj, Int32.lt_iff_toInt_lt, Int32.le_iff_toInt_le, pj_lz0]
  omega
theorem pj_u0_ltT {x : Int32} (h : pj_c1 .lt x 0 = true) : x.toInt < 0 := by
  simp only [pj_c1, decide_eq_true_eq, decide_eq_false_iff_not, ← Int32.toInt_inj, Int32.lt_iff_toInt_lt, Int32.le_iff_toInt_le, pj_lz0] at h
  omega
theorem pj_u0_ltF {x : Int32} (h : pj_c1 .lt x 0 = false) : 0 ≤ x.toInt := by
  simp only [pj_c1, decide_eq_true_eq, decide_eq_false_iff_not, ← Int32.toInt_inj, Int32.lt_iff_toInt_lt, Int32.le_iff_toInt_le, pj_lz0] at h
  omega
theorem pj_b_geT {x y : Int32} (h : y.toInt ≤ x.toInt) : pj_c1 .ge x y = true := by
  simp only [pj_c1, decide_eq_true_eq, decide_eq_false_iff_not, ← Int32.toInt_inj, Int32.lt_iff_toInt_lt, Int32.le_iff_toInt_le]
  omega
theorem pj_b_geF {x y : Int32} (h : x.toInt < y.toInt) : pj_c1 .ge x y = false := by
  simp only [pj_c1, decide_eq_true_eq, decide_eq_false_iff_not, ← Int32.toInt_inj, Int32.lt_iff_toInt_lt, Int32.le_iff_toInt_le]
  omega
theorem pj_u_geT {x y : Int32} (h : pj_c1 .ge x y = true) : y.toInt ≤ x.toInt := by
  simp only [pj_c1, decide_eq_true_eq, decide_eq_false_iff_not, ← Int32.toInt_inj, Int32.lt_iff_toInt_lt, Int32.le_iff_toInt_le] at h
  omega
theorem pj_u_geF {x y : Int32} (h : pj_c1 .ge x y = false) : x.toInt < y.toInt := by
  simp only [pj_c1, decide_eq_true_eq, decide_eq_false_iff_not, ← Int32.toInt_inj, Int32.lt_iff_toInt_lt, Int32.le_iff_toInt_le] at h
  omega
theorem pj_b0_geT {x : Int32} (h : 0 ≤ x.toInt) : pj_c1 .ge x 0 = true := by
  simp only [pj_c1, decide_eq_true_eq, decide_eq_false_iff_not, ← Int32.toInt_inj, Int32.lt_iff_toInt_lt, Int32.le_iff_toInt_le, pj_lz0]
  omega
theorem pj_b0_geF {x : Int32} (h : x.toInt < 0) : pj_c1 .ge x 0 = false := by
  simp only [pj_c1, decide_eq_true_eq, decide_eq_false_iff_not, ← Int32.toInt_inj, Int32.lt_iff_toInt_lt, Int32.le_iff_toInt_le, pj_lz0]
  omega
theorem pj_u0_geT {x : Int32} (h : pj_c1 .ge x 0 = true) : 0 ≤ x.toInt := by
  simp only [pj_c1, decide_eq_true_eq, decide_eq_false_iff_not, ← Int32.toInt_inj, Int32.lt_iff_toInt_lt, Int32.le_iff_toInt_le, pj_lz0] at h
  omega
theorem pj_u0_geF {x : Int32} (h : pj_c1 .ge x 0 = false) : x.toInt < 0 := by
  simp only [pj_c1, decide_eq_true_eq, decide_eq_false_iff_not, ← Int32.toInt_inj, Int32.lt_iff_toInt_lt, Int32.le_iff_toInt_le, pj_lz0] at h
  omega
theorem pj_b_gtT {x y : Int32} (h : y.toInt < x.toInt) : pj_c1 .gt x y = true := by
  simp only [pj_c1, decide_eq_true_eq, decide_eq_false_iff_not, ← Int32.toInt_inj, Int32.lt_iff_toInt_lt, Int32.le_iff_toInt_le]
  omega
theorem pj_b_gtF {x y : Int32} (h : x.toInt ≤ y.toInt) : pj_c1 .gt x y = false := by
  simp only [pj_c1, decide_eq_true_eq, decide_eq_false_iff_not, ← Int32.toInt_inj, Int32.lt_iff_toInt_lt, Int32.le_iff_toInt_le]
  omega
theorem pj_u_gtT {x y : Int32} (h : pj_c1 .gt x y = true) : y.toInt < x.toInt := by
  simp only [pj_c1, decide_eq_true_eq, decide_eq_false_iff_not, ← Int32.toInt_inj, Int32.lt_iff_toInt_lt, Int32.le_iff_toInt_le] at h
  omega
theorem pj_u_gtF {x y : Int32} (h : pj_c1 .gt x y = false) : x.toInt ≤ y.toInt := by
  simp only [pj_c1, decide_eq_true_eq, decide_eq_false_iff_not, ← Int32.toInt_inj, Int32.lt_iff_toInt_lt, Int32.le_iff_toInt_le] at h
  omega
theorem pj_b0_gtT {x : Int32} (h : 0 < x.toInt) : pj_c1 .gt x 0 = true := by
  simp only [pj_c1, decide_eq_true_eq, decide_eq_false_iff_not, ← Int32.toInt_inj, Int32.lt_iff_toInt_lt, Int32.le_iff_toInt_le, pj_lz0]
  omega
theorem pj_b0_gtF {x : Int32} (h : x.toInt ≤ 0) : pj_c1 .gt x 0 = false := by
  simp only [pj_c1, decide_eq_true_eq, decide_eq_false_iff_not, ← Int32.toInt_inj, Int32.lt_iff_toInt_lt, Int32.le_iff_toInt_le, pj_lz0]
  omega
theorem pj_u0_gtT {x : Int32} (h : pj_c1 .gt x 0 = true) : 0 < x.toInt := by
  simp only [pj_c1, decide_eq_true_eq, decide_eq_false_iff_not, ← Int32.toInt_inj, Int32.lt_iff_toInt_lt, Int32.le_iff_toInt_le, pj_lz0] at h
  omega
theorem pj_u0_gtF {x : Int32} (h : pj_c1 .gt x 0 = false) : x.toInt ≤ 0 := by
  simp only [pj_c1, decide_eq_true_eq, decide_eq_false_iff_not, ← Int32.toInt_inj, Int32.lt_iff_toInt_lt, Int32.le_iff_toInt_le, pj_lz0] at h
  omega
theorem pj_b_leT {x y : Int32} (h : x.toInt ≤ y.toInt) : pj_c1 .le x y = true := by
  simp only [pj_c1, decide_eq_true_eq, decide_eq_false_iff_not, ← Int32.toInt_inj, Int32.lt_iff_toInt_lt, Int32.le_iff_toInt_le]
  omega
theorem pj_b_leF {x y : Int32} (h : y.toInt < x.toInt) : pj_c1 .le x y = false := by
  simp only [pj_c1, decide_eq_true_eq, decide_eq_false_iff_not, ← Int32.toInt_inj, Int32.lt_iff_toInt_lt, Int32.le_iff_toInt_le]
  omega
theorem pj_u_leT {x y : Int32} (h : pj_c1 .le x y = true) : x.toInt ≤ y.toInt := by
  simp only [pj_c1, decide_eq_true_eq, decide_eq_false_iff_not, ← Int32.toInt_inj, Int32.lt_iff_toInt_lt, Int32.le_iff_toInt_le] at h
  omega
theorem pj_u_leF {x y : Int32} (h : pj_c1 .le x y = false) : y.toInt < x.toInt := by
  simp only [pj_c1, decide_eq_true_eq, decide_eq_false_iff_not, ← Int32.toInt_inj, Int32.lt_iff_toInt_lt, Int32.le_iff_toInt_le] at h
  omega
theorem pj_b0_leT {x : Int32} (h : x.toInt ≤ 0) : pj_c1 .le x 0 = true := by
  simp only [pj_c1, decide_eq_true_eq, decide_eq_false_iff_not, ← Int32.toInt_inj, Int32.lt_iff_toInt_lt, Int32.le_iff_toInt_le, pj_lz0]
  omega
theorem pj_b0_leF {x : Int32} (h : 0 < x.toInt) : pj_c1 .le x 0 = false := by
  simp only [pj_c1, decide_eq_true_eq, decide_eq_false_iff_not, ← Int32.toInt_inj, Int32.lt_iff_toInt_lt, Int32.le_iff_toInt_le, pj_lz0]
  omega
theorem pj_u0_leT {x : Int32} (h : pj_c1 .le x 0 = true) : x.toInt ≤ 0 := by
  simp only [pj_c1, decide_eq_true_eq, decide_eq_false_iff_not, ← Int32.toInt_inj, Int32.lt_iff_toInt_lt, Int32.le_iff_toInt_le, pj_lz0] at h
  omega
theorem pj_u0_leF {x : Int32} (h : pj_c1 .le x 0 = false) : 0 < x.toInt := by
  simp only [pj_c1, decide_eq_true_eq, decide_eq_false_iff_not, ← Int32.toInt_inj, Int32.lt_iff_toInt_lt, Int32.le_iff_toInt_le, pj_lz0] at h
  omega
theorem pj_addI {x y : Int32} (h1 : -2147483648 ≤ x.toInt + y.toInt) (h2 : x.toInt + y.toInt ≤ 2147483647) : (x + y).toInt = x.toInt + y.toInt := by
  rw [Int32.toInt_add]
  exact Int.bmod_eq_of_le (by omega) (by omega)
theorem pj_subI {x y : Int32} (h1 : -2147483648 ≤ x.toInt - y.toInt) (h2 : x.toInt - y.toInt ≤ 2147483647) : (x - y).toInt = x.toInt - y.toInt := by
  rw [Int32.toInt_sub]
  exact Int.bmod_eq_of_le (by omega) (by omega)
theorem pj_mulI {x y : Int32} (h1 : -2147483648 ≤ x.toInt * y.toInt) (h2 : x.toInt * y.toInt ≤ 2147483647) : (x * y).toInt = x.toInt * y.toInt := by
  rw [Int32.toInt_mul]
  exact Int.bmod_eq_of_le (by omega) (by omega)
theorem pj_nz {x : Int32} (h : x.toInt ≠ 0) : ¬ x = 0 := fun e => by
  rw [e, pj_lz0] at h
  exact h rfl
theorem pj_i32 (x : Int32) : -2147483648 ≤ x.toInt ∧ x.toInt ≤ 2147483647 := ⟨Int32.le_toInt x, Int32.toInt_le x⟩
theorem pj_n31 {x : Int32} (h0 : 0 ≤ x.toInt) : x.toInt = (x.toBitVec.toNat : Int) ∧ x.toBitVec.toNat < 2147483648 := by
  have e : x.toInt = x.toBitVec.toInt := rfl
  have hl : x.toBitVec.toNat < 4294967296 := x.toBitVec.isLt
  rw [e] at h0 ⊢
  rw [BitVec.toInt_eq_toNat_cond] at h0 ⊢
  split at h0
  · rename_i h
    rw [if_pos h]
    omega
  · omega
theorem pj_t31 {x : Int32} (h : x.toBitVec.toNat < 2147483648) : x.toInt = (x.toBitVec.toNat : Int) := by
  have e : x.toInt = x.toBitVec.toInt := rfl
  rw [e, BitVec.toInt_eq_toNat_cond]
  exact if_pos (by omega)
theorem pj_andI {x y : Int32} (h : 0 ≤ y.toInt) : 0 ≤ (x &&& y).toInt ∧ (x &&& y).toInt ≤ y.toInt := by
  obtain ⟨e1, e2⟩ := pj_n31 h
  have e3 : (x &&& y).toBitVec.toNat ≤ y.toBitVec.toNat := by
    rw [Int32.toBitVec_and, BitVec.toNat_and]
    exact Nat.and_le_right
  rw [pj_t31 (x := x &&& y) (by omega), e1]
  omega
theorem pj_orG {x y : Int32} (k : Nat) (hk : 2 ^ k ≤ 2147483648) (hx0 : 0 ≤ x.toInt) (hx : x.toInt < (2 ^ k : Nat)) (hy0 : 0 ≤ y.toInt) (hy : y.toInt < (2 ^ k : Nat)) : 0 ≤ (x ||| y).toInt ∧ (x ||| y).toInt < (2 ^ k : Nat) := by
  obtain ⟨e1, e2⟩ := pj_n31 hx0
  obtain ⟨f1, f2⟩ := pj_n31 hy0
  have e3 : (x ||| y).toBitVec.toNat < 2 ^ k := by
    rw [Int32.toBitVec_or, BitVec.toNat_or]
    exact Nat.or_lt_two_pow (by omega) (by omega)
  rw [pj_t31 (x := x ||| y) (by omega)]
  omega
theorem pj_orI2 {x y : Int32} (hx0 : 0 ≤ x.toInt) (hx : x.toInt ≤ 1) (hy0 : 0 ≤ y.toInt) (hy : y.toInt ≤ 1) : 0 ≤ (x ||| y).toInt ∧ (x ||| y).toInt ≤ 1 := by
  have e : ((2 ^ 1 : Nat) : Int) = 2 := by decide
  have h := pj_orG (x := x) (y := y) 1 (by decide) hx0 (by rw [e]; omega) hy0 (by rw [e]; omega)
  rw [e] at h
  omega
theorem pj_shlI1 {y : Int32} (h0 : 0 ≤ y.toInt) (h1 : y.toInt ≤ 1) : 1 ≤ ((Int32.ofInt 1) <<< (y &&& 31)).toInt ∧ ((Int32.ofInt 1) <<< (y &&& 31)).toInt ≤ 2 := by
  have key : ∀ k : Nat, k < 2 → 1 ≤ ((Int32.ofInt 1) <<< (Int32.ofInt k &&& 31)).toInt ∧ ((Int32.ofInt 1) <<< (Int32.ofInt k &&& 31)).toInt ≤ 2 := by decide +kernel
  have e := key y.toInt.toNat (by omega)
  rw [show ((y.toInt.toNat : Nat) : Int) = y.toInt by omega, Int32.ofInt_toInt] at e
  exact e
theorem pj_orI4 {x y : Int32} (hx0 : 0 ≤ x.toInt) (hx : x.toInt ≤ 3) (hy0 : 0 ≤ y.toInt) (hy : y.toInt ≤ 3) : 0 ≤ (x ||| y).toInt ∧ (x ||| y).toInt ≤ 3 := by
  have e : ((2 ^ 2 : Nat) : Int) = 4 := by decide
  have h := pj_orG (x := x) (y := y) 2 (by decide) hx0 (by rw [e]; omega) hy0 (by rw [e]; omega)
  rw [e] at h
  omega
theorem pj_shlI2 {y : Int32} (h0 : 0 ≤ y.toInt) (h1 : y.toInt ≤ 2) : 1 ≤ ((Int32.ofInt 1) <<< (y &&& 31)).toInt ∧ ((Int32.ofInt 1) <<< (y &&& 31)).toInt ≤ 4 := by
  have key : ∀ k : Nat, k < 3 → 1 ≤ ((Int32.ofInt 1) <<< (Int32.ofInt k &&& 31)).toInt ∧ ((Int32.ofInt 1) <<< (Int32.ofInt k &&& 31)).toInt ≤ 4 := by decide +kernel
  have e := key y.toInt.toNat (by omega)
  rw [show ((y.toInt.toNat : Nat) : Int) = y.toInt by omega, Int32.ofInt_toInt] at e
  exact e
theorem pj_orI8 {x y : Int32} (hx0 : 0 ≤ x.toInt) (hx : x.toInt ≤ 7) (hy0 : 0 ≤ y.toInt) (hy : y.toInt ≤ 7) : 0 ≤ (x ||| y).toInt ∧ (x ||| y).toInt ≤ 7 := by
  have e : ((2 ^ 3 : Nat) : Int) = 8 := by decide
  have h := pj_orG (x := x) (y := y) 3 (by decide) hx0 (by rw [e]; omega) hy0 (by rw [e]; omega)
  rw [e] at h
  omega
theorem pj_shlI3 {y : Int32} (h0 : 0 ≤ y.toInt) (h1 : y.toInt ≤ 3) : 1 ≤ ((Int32.ofInt 1) <<< (y &&& 31)).toInt ∧ ((Int32.ofInt 1) <<< (y &&& 31)).toInt ≤ 8 := by
  have key : ∀ k : Nat, k < 4 → 1 ≤ ((Int32.ofInt 1) <<< (Int32.ofInt k &&& 31)).toInt ∧ ((Int32.ofInt 1) <<< (Int32.ofInt k &&& 31)).toInt ≤ 8 := by decide +kernel
  have e := key y.toInt.toNat (by omega)
  rw [show ((y.toInt.toNat : Nat) : Int) = y.toInt by omega, Int32.ofInt_toInt] at e
  exact e
theorem pj_orI16 {x y : Int32} (hx0 : 0 ≤ x.toInt) (hx : x.toInt ≤ 15) (hy0 : 0 ≤ y.toInt) (hy : y.toInt ≤ 15) : 0 ≤ (x ||| y).toInt ∧ (x ||| y).toInt ≤ 15 := by
  have e : ((2 ^ 4 : Nat) : Int) = 16 := by decide
  have h := pj_orG (x := x) (y := y) 4 (by decide) hx0 (by rw [e]; omega) hy0 (by rw [e]; omega)
  rw [e] at h
  omega
theorem pj_shlI4 {y : Int32} (h0 : 0 ≤ y.toInt) (h1 : y.toInt ≤ 4) : 1 ≤ ((Int32.ofInt 1) <<< (y &&& 31)).toInt ∧ ((Int32.ofInt 1) <<< (y &&& 31)).toInt ≤ 16 := by
  have key : ∀ k : Nat, k < 5 → 1 ≤ ((Int32.ofInt 1) <<< (Int32.ofInt k &&& 31)).toInt ∧ ((Int32.ofInt 1) <<< (Int32.ofInt k &&& 31)).toInt ≤ 16 := by decide +kernel
  have e := key y.toInt.toNat (by omega)
  rw [show ((y.toInt.toNat : Nat) : Int) = y.toInt by omega, Int32.ofInt_toInt] at e
  exact e
theorem pj_orI32 {x y : Int32} (hx0 : 0 ≤ x.toInt) (hx : x.toInt ≤ 31) (hy0 : 0 ≤ y.toInt) (hy : y.toInt ≤ 31) : 0 ≤ (x ||| y).toInt ∧ (x ||| y).toInt ≤ 31 := by
  have e : ((2 ^ 5 : Nat) : Int) = 32 := by decide
  have h := pj_orG (x := x) (y := y) 5 (by decide) hx0 (by rw [e]; omega) hy0 (by rw [e]; omega)
  rw [e] at h
  omega
theorem pj_shlI5 {y : Int32} (h0 : 0 ≤ y.toInt) (h1 : y.toInt ≤ 5) : 1 ≤ ((Int32.ofInt 1) <<< (y &&& 31)).toInt ∧ ((Int32.ofInt 1) <<< (y &&& 31)).toInt ≤ 32 := by
  have key : ∀ k : Nat, k < 6 → 1 ≤ ((Int32.ofInt 1) <<< (Int32.ofInt k &&& 31)).toInt ∧ ((Int32.ofInt 1) <<< (Int32.ofInt k &&& 31)).toInt ≤ 32 := by decide +kernel
  have e := key y.toInt.toNat (by omega)
  rw [show ((y.toInt.toNat : Nat) : Int) = y.toInt by omega, Int32.ofInt_toInt] at e
  exact e
theorem pj_orI64 {x y : Int32} (hx0 : 0 ≤ x.toInt) (hx : x.toInt ≤ 63) (hy0 : 0 ≤ y.toInt) (hy : y.toInt ≤ 63) : 0 ≤ (x ||| y).toInt ∧ (x ||| y).toInt ≤ 63 := by
  have e : ((2 ^ 6 : Nat) : Int) = 64 := by decide
  have h := pj_orG (x := x) (y := y) 6 (by decide) hx0 (by rw [e]; omega) hy0 (by rw [e]; omega)
  rw [e] at h
  omega
theorem pj_shlI6 {y : Int32} (h0 : 0 ≤ y.toInt) (h1 : y.toInt ≤ 6) : 1 ≤ ((Int32.ofInt 1) <<< (y &&& 31)).toInt ∧ ((Int32.ofInt 1) <<< (y &&& 31)).toInt ≤ 64 := by
  have key : ∀ k : Nat, k < 7 → 1 ≤ ((Int32.ofInt 1) <<< (Int32.ofInt k &&& 31)).toInt ∧ ((Int32.ofInt 1) <<< (Int32.ofInt k &&& 31)).toInt ≤ 64 := by decide +kernel
  have e := key y.toInt.toNat (by omega)
  rw [show ((y.toInt.toNat : Nat) : Int) = y.toInt by omega, Int32.ofInt_toInt] at e
  exact e
theorem pj_orI128 {x y : Int32} (hx0 : 0 ≤ x.toInt) (hx : x.toInt ≤ 127) (hy0 : 0 ≤ y.toInt) (hy : y.toInt ≤ 127) : 0 ≤ (x ||| y).toInt ∧ (x ||| y).toInt ≤ 127 := by
  have e : ((2 ^ 7 : Nat) : Int) = 128 := by decide
  have h := pj_orG (x := x) (y := y) 7 (by decide) hx0 (by rw [e]; omega) hy0 (by rw [e]; omega)
  rw [e] at h
  omega
theorem pj_shlI7 {y : Int32} (h0 : 0 ≤ y.toInt) (h1 : y.toInt ≤ 7) : 1 ≤ ((Int32.ofInt 1) <<< (y &&& 31)).toInt ∧ ((Int32.ofInt 1) <<< (y &&& 31)).toInt ≤ 128 := by
  have key : ∀ k : Nat, k < 8 → 1 ≤ ((Int32.ofInt 1) <<< (Int32.ofInt k &&& 31)).toInt ∧ ((Int32.ofInt 1) <<< (Int32.ofInt k &&& 31)).toInt ≤ 128 := by decide +kernel
  have e := key y.toInt.toNat (by omega)
  rw [show ((y.toInt.toNat : Nat) : Int) = y.toInt by omega, Int32.ofInt_toInt] at e
  exact e
theorem pj_orI256 {x y : Int32} (hx0 : 0 ≤ x.toInt) (hx : x.toInt ≤ 255) (hy0 : 0 ≤ y.toInt) (hy : y.toInt ≤ 255) : 0 ≤ (x ||| y).toInt ∧ (x ||| y).toInt ≤ 255 := by
  have e : ((2 ^ 8 : Nat) : Int) = 256 := by decide
  have h := pj_orG (x := x) (y := y) 8 (by decide) hx0 (by rw [e]; omega) hy0 (by rw [e]; omega)
  rw [e] at h
  omega
theorem pj_shlI8 {y : Int32} (h0 : 0 ≤ y.toInt) (h1 : y.toInt ≤ 8) : 1 ≤ ((Int32.ofInt 1) <<< (y &&& 31)).toInt ∧ ((Int32.ofInt 1) <<< (y &&& 31)).toInt ≤ 256 := by
  have key : ∀ k : Nat, k < 9 → 1 ≤ ((Int32.ofInt 1) <<< (Int32.ofInt k &&& 31)).toInt ∧ ((Int32.ofInt 1) <<< (Int32.ofInt k &&& 31)).toInt ≤ 256 := by decide +kernel
  have e := key y.toInt.toNat (by omega)
  rw [show ((y.toInt.toNat : Nat) : Int) = y.toInt by omega, Int32.ofInt_toInt] at e
  exact e
theorem pj_orI512 {x y : Int32} (hx0 : 0 ≤ x.toInt) (hx : x.toInt ≤ 511) (hy0 : 0 ≤ y.toInt) (hy : y.toInt ≤ 511) : 0 ≤ (x ||| y).toInt ∧ (x ||| y).toInt ≤ 511 := by
  have e : ((2 ^ 9 : Nat) : Int) = 512 := by decide
  have h := pj_orG (x := x) (y := y) 9 (by decide) hx0 (by rw [e]; omega) hy0 (by rw [e]; omega)
  rw [e] at h
  omega
theorem pj_shlI9 {y : Int32} (h0 : 0 ≤ y.toInt) (h1 : y.toInt ≤ 9) : 1 ≤ ((Int32.ofInt 1) <<< (y &&& 31)).toInt ∧ ((Int32.ofInt 1) <<< (y &&& 31)).toInt ≤ 512 := by
  have key : ∀ k : Nat, k < 10 → 1 ≤ ((Int32.ofInt 1) <<< (Int32.ofInt k &&& 31)).toInt ∧ ((Int32.ofInt 1) <<< (Int32.ofInt k &&& 31)).toInt ≤ 512 := by decide +kernel
  have e := key y.toInt.toNat (by omega)
  rw [show ((y.toInt.toNat : Nat) : Int) = y.toInt by omega, Int32.ofInt_toInt] at e
  exact e
theorem pj_orI1024 {x y : Int32} (hx0 : 0 ≤ x.toInt) (hx : x.toInt ≤ 1023) (hy0 : 0 ≤ y.toInt) (hy : y.toInt ≤ 1023) : 0 ≤ (x ||| y).toInt ∧ (x ||| y).toInt ≤ 1023 := by
  have e : ((2 ^ 10 : Nat) : Int) = 1024 := by decide
  have h := pj_orG (x := x) (y := y) 10 (by decide) hx0 (by rw [e]; omega) hy0 (by rw [e]; omega)
  rw [e] at h
  omega
theorem pj_shlI10 {y : Int32} (h0 : 0 ≤ y.toInt) (h1 : y.toInt ≤ 10) : 1 ≤ ((Int32.ofInt 1) <<< (y &&& 31)).toInt ∧ ((Int32.ofInt 1) <<< (y &&& 31)).toInt ≤ 1024 := by
  have key : ∀ k : Nat, k < 11 → 1 ≤ ((Int32.ofInt 1) <<< (Int32.ofInt k &&& 31)).toInt ∧ ((Int32.ofInt 1) <<< (Int32.ofInt k &&& 31)).toInt ≤ 1024 := by decide +kernel
  have e := key y.toInt.toNat (by omega)
  rw [show ((y.toInt.toNat : Nat) : Int) = y.toInt by omega, Int32.ofInt_toInt] at e
  exact e
theorem pj_orI2048 {x y : Int32} (hx0 : 0 ≤ x.toInt) (hx : x.toInt ≤ 2047) (hy0 : 0 ≤ y.toInt) (hy : y.toInt ≤ 2047) : 0 ≤ (x ||| y).toInt ∧ (x ||| y).toInt ≤ 2047 := by
  have e : ((2 ^ 11 : Nat) : Int) = 2048 := by decide
  have h := pj_orG (x := x) (y := y) 11 (by decide) hx0 (by rw [e]; omega) hy0 (by rw [e]; omega)
  rw [e] at h
  omega
theorem pj_shlI11 {y : Int32} (h0 : 0 ≤ y.toInt) (h1 : y.toInt ≤ 11) : 1 ≤ ((Int32.ofInt 1) <<< (y &&& 31)).toInt ∧ ((Int32.ofInt 1) <<< (y &&& 31)).toInt ≤ 2048 := by
  have key : ∀ k : Nat, k < 12 → 1 ≤ ((Int32.ofInt 1) <<< (Int32.ofInt k &&& 31)).toInt ∧ ((Int32.ofInt 1) <<< (Int32.ofInt k &&& 31)).toInt ≤ 2048 := by decide +kernel
  have e := key y.toInt.toNat (by omega)
  rw [show ((y.toInt.toNat : Nat) : Int) = y.toInt by omega, Int32.ofInt_toInt] at e
  exact e
theorem pj_orI4096 {x y : Int32} (hx0 : 0 ≤ x.toInt) (hx : x.toInt ≤ 4095) (hy0 : 0 ≤ y.toInt) (hy : y.toInt ≤ 4095) : 0 ≤ (x ||| y).toInt ∧ (x ||| y).toInt ≤ 4095 := by
  have e : ((2 ^ 12 : Nat) : Int) = 4096 := by decide
  have h := pj_orG (x := x) (y := y) 12 (by decide) hx0 (by rw [e]; omega) hy0 (by rw [e]; omega)
  rw [e] at h
  omega
theorem pj_shlI12 {y : Int32} (h0 : 0 ≤ y.toInt) (h1 : y.toInt ≤ 12) : 1 ≤ ((Int32.ofInt 1) <<< (y &&& 31)).toInt ∧ ((Int32.ofInt 1) <<< (y &&& 31)).toInt ≤ 4096 := by
  have key : ∀ k : Nat, k < 13 → 1 ≤ ((Int32.ofInt 1) <<< (Int32.ofInt k &&& 31)).toInt ∧ ((Int32.ofInt 1) <<< (Int32.ofInt k &&& 31)).toInt ≤ 4096 := by decide +kernel
  have e := key y.toInt.toNat (by omega)
  rw [show ((y.toInt.toNat : Nat) : Int) = y.toInt by omega, Int32.ofInt_toInt] at e
  exact e
theorem pj_rtb {y : Int32} (h : 0 ≤ y.toInt ∧ y.toInt ≤ 1) : pj_rt (some .boolean) .ireturn [.int y] = some (some (.int y)) := by
  have e : y = Int32.ofInt 0 ∨ y = Int32.ofInt 1 := by
    rw [← Int32.toInt_inj, ← Int32.toInt_inj, pj_li0, pj_li1]
    omega
  rcases e with e | e
  · subst e
    rfl
  · subst e
    rfl
theorem pj_divE {x y : Int32} (h0 : 0 ≤ x.toInt) : (x / y).toInt = x.toInt / y.toInt := by
  rw [Int32.toInt_div_of_ne_left _ _ (fun e => by rw [e] at h0; exact absurd h0 (by decide)), Int.tdiv_eq_ediv_of_nonneg h0]
theorem pj_divI {x y : Int32} (h0 : 0 ≤ x.toInt) (h1 : 0 < y.toInt) : 0 ≤ (x / y).toInt ∧ (x / y).toInt ≤ x.toInt := by
  rw [pj_divE h0]
  exact ⟨Int.ediv_nonneg h0 (by omega), Int.ediv_le_self _ h0⟩
theorem pj_remI {x y : Int32} (h0 : 0 ≤ x.toInt) (h1 : 0 < y.toInt) : 0 ≤ (x - x / y * y).toInt ∧ (x - x / y * y).toInt < y.toInt := by
  have hx := (pj_i32 x).2
  have e1 : x.toInt % y.toInt = x.toInt - y.toInt * (x.toInt / y.toInt) := Int.emod_def _ _
  have e2 := Int.emod_nonneg x.toInt (show y.toInt ≠ 0 by omega)
  have e3 := Int.emod_lt_of_pos x.toInt h1
  have e4 : 0 ≤ y.toInt * (x.toInt / y.toInt) := Int.mul_nonneg (by omega) (Int.ediv_nonneg h0 (by omega))
  have m : (x / y * y).toInt = y.toInt * (x.toInt / y.toInt) := by
    rw [pj_mulI (by rw [pj_divE h0, Int.mul_comm]; omega) (by rw [pj_divE h0, Int.mul_comm]; omega), pj_divE h0, Int.mul_comm]
  rw [pj_subI (by omega) (by omega), m]
  omega
