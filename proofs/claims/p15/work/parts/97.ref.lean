theorem pj_rm64 {x y : Int64} (hy : y.toInt ≠ 0) : (x - x / y * y).toInt = x.toInt.tmod y.toInt := by
  have hx1 := Int64.le_toInt x
  have hx2 := Int64.toInt_le x
  have e1 : (x - x / y * y).toInt = (x.toInt - x.toInt.tdiv y.toInt * y.toInt).bmod (2 ^ 64) := by
    rw [Int64.toInt_sub, Int64.toInt_mul, Int64.toInt_div]
    simp [Int.sub_bmod_bmod, Int.bmod_mul_bmod]
  rw [e1]
  have e2 : x.toInt - x.toInt.tdiv y.toInt * y.toInt = x.toInt.tmod y.toInt := by
    have := Int.mul_tdiv_add_tmod x.toInt y.toInt
    rw [Int.mul_comm] at this
    omega
  rw [e2]
  have h3 : (x.toInt.tmod y.toInt).natAbs < y.toInt.natAbs := by
    rw [Int.natAbs_tmod]
    exact Nat.mod_lt _ (by omega)
  have hy1 := Int64.le_toInt y
  have hy2 := Int64.toInt_le y
  have m1 : Int64.minValue.toInt = -9223372036854775808 := by decide
  have m2 : Int64.maxValue.toInt = 9223372036854775807 := by decide
  exact Int.bmod_eq_of_le (by omega) (by omega)
theorem pj_cm_step {d : Nat} {G0 : pj_G} {a b : Int64} (hrec : b.toInt ≠ 0 → pj_Y d 173 [.long b, .long (a - a / b * b)] G0 (fun v G' => ∃ y : Int64, v = some (.long y) ∧ G0 = G' ∧ y.toInt ≠ 0)) (h0 : b.toInt = 0 → a.toInt ≠ 0) : pj_Y (d + 1) 173 [.long a, .long b] G0 (fun v G' => ∃ y : Int64, v = some (.long y) ∧ G0 = G' ∧ y.toInt ≠ 0) := by
  refine pj_Y_X (M := pj_m173) rfl rfl (Nat.le_of_ble_eq_true rfl) ?_
  show pj_X _ _ G0 0 [(0, .long a), (2, .long b)] [] _
  refine pj_X_of (fun r h => pj_R_to (G0, 3, [(0, .long a), (2, .long b)], [.int (lg_cmp b (Int64.ofNat 0))], 0, 0) 3 4 (fun _ => rfl) h) ?_
  have lc1 : (Int64.ofNat 0).toInt = 0 := by decide
  obtain ⟨z2, hz2⟩ : ∃ z : Int32, z = lg_cmp b (Int64.ofNat 0) := ⟨_, rfl⟩
  refine pj_X_eqi hz2.symm ?_
  have fz2_0 : (-1 ≤ z2.toInt ∧ z2.toInt ≤ 1) ∧ (z2.toInt < 0 ↔ b.toInt < (Int64.ofNat 0).toInt) ∧ (0 < z2.toInt ↔ (Int64.ofNat 0).toInt < b.toInt) := by rw [hz2]; exact pj_lcI
  cases b3 : pj_c1 .ne z2 0 with
  | true =>
    have ub3 := pj_u0_neT b3
    refine pj_X_of (fun r h => pj_R_ifT 10 rfl rfl b3 h) ?_
    refine pj_X_of (fun r h => pj_R_to (G0, 13, [(0, .long a), (2, .long b)], [.long b, .long a, .long b], 0, 0) 13 4 (fun _ => rfl) h) ?_
    refine pj_X_of (fun r h => pj_R_lrm rfl (pj_nzl (by omega)) h) ?_
    show pj_X _ _ G0 14 [(0, .long a), (2, .long b)] [.long (a - a / b * b), .long b] _
    refine pj_X_ca (vs := [.long b, .long (a - a / b * b)]) rfl (fun _ => rfl) ⟨Nat.le_of_ble_eq_true rfl, Nat.le_of_ble_eq_true rfl, rfl⟩ ⟨rfl, rfl⟩ (hrec (by omega)) ?_
    rintro _ _ ⟨y5, rfl, rfl, h5⟩
    show pj_X _ _ G0 17 [(0, .long a), (2, .long b)] [.long y5] _
    exact pj_X_rt rfl rfl ⟨_, rfl, rfl, h5⟩
  | false =>
    have ub3 := pj_u0_neF b3
    refine pj_X_of (fun r h => pj_R_ifF rfl b3 h) ?_
    refine pj_X_of (fun r h => pj_R_to (G0, 17, [(0, .long a), (2, .long b)], [.long a], 0, 0) 17 3 (fun _ => rfl) h) ?_
    exact pj_X_rt rfl rfl ⟨_, rfl, rfl, h0 (by omega)⟩
theorem pj_halve {b r : Nat} (h0 : 0 < r) (h : r < b) : 2 * (b % r) < b := by
  have h1 := Nat.mod_lt b h0
  have h2 := Nat.div_add_mod b r
  have h3 : 1 ≤ b / r := Nat.div_pos (Nat.le_of_lt h) h0
  have h4 : r * 1 ≤ r * (b / r) := Nat.mul_le_mul_left r h3
  omega
theorem pj_cm (G0 : pj_G) : ∀ (n : Nat) (a b : Int64), b.toInt.natAbs < 2 ^ n → (a.toInt ≠ 0 ∨ b.toInt ≠ 0) → pj_Y (2 * n + 1) 173 [.long a, .long b] G0 (fun v G' => ∃ y : Int64, v = some (.long y) ∧ G0 = G' ∧ y.toInt ≠ 0) := by
  intro n
  induction n with
  | zero =>
    intro a b hb hab
    have hb0 : b.toInt = 0 := by
      have : b.toInt.natAbs < 1 := hb
      omega
    exact pj_cm_step (fun h => absurd hb0 h) (fun _ => by omega)
  | succ n ih =>
    intro a b hb hab
    have hp : 2 ^ (n + 1) = 2 * 2 ^ n := by rw [Nat.pow_succ]; omega
    rw [show 2 * (n + 1) + 1 = (2 * n + 1 + 1) + 1 by omega]
    refine pj_cm_step (fun h => ?_) (fun h => by omega)
    have e1 := pj_rm64 (x := a) h
    refine pj_cm_step (fun h2 => ?_) (fun _ => h)
    have e2 := pj_rm64 (x := b) h2
    refine ih _ _ ?_ (Or.inl h2)
    rw [e2, Int.natAbs_tmod]
    have h3 : (a - a / b * b).toInt.natAbs < b.toInt.natAbs := by
      rw [e1, Int.natAbs_tmod]
      exact Nat.mod_lt _ (by omega)
    have h4 := pj_halve (b := b.toInt.natAbs) (r := (a - a / b * b).toInt.natAbs) (by omega) h3
    omega
theorem ct_173 (G0 : pj_G) (hI : pj_Inv G0) (a b : Int64) (p0_ : a.toInt ≠ 0 ∨ b.toInt ≠ 0) : pj_Y 131 173 [.long a, .long b] G0 (fun v G' => ∃ y : Int64, v = some (.long y) ∧ G0 = G' ∧ y.toInt ≠ 0) := by
  refine pj_cm G0 65 a b ?_ p0_
  have hx1 := Int64.le_toInt b
  have hx2 := Int64.toInt_le b
  have m1 : Int64.minValue.toInt = -9223372036854775808 := by decide
  have m2 : Int64.maxValue.toInt = 9223372036854775807 := by decide
  rw [show (2 : Nat) ^ 65 = 36893488147419103232 by decide]
  omega
theorem pj_usI {x y : Int32} {k : Nat} (hk : k < 32) (hy : y.toUInt32 &&& Int32.toUInt32 31 = UInt32.ofNat k) (h0 : 0 ≤ x.toInt) : ((x.toUInt32 >>> (y.toUInt32 &&& Int32.toUInt32 31)).toInt32).toInt = x.toInt / ((2 ^ k : Nat) : Int) := by
  rw [hy]
  have h1 : x.toUInt32.toNat = x.toInt.toNat := by
    have : x.toInt = (x.toUInt32.toNat : Int) := by
      show x.toBitVec.toInt = (x.toBitVec.toNat : Int)
      rw [BitVec.toInt_eq_toNat_cond]
      have h3 : 0 ≤ x.toBitVec.toInt := h0
      rw [BitVec.toInt_eq_toNat_cond] at h3
      split
      · rfl
      · rename_i h4
        rw [if_neg h4] at h3
        have := x.toBitVec.isLt
        omega
    omega
  have hx := (pj_i32 x).2
  have h2 : (x.toUInt32 >>> UInt32.ofNat k).toNat = x.toInt.toNat / 2 ^ k := by
    rw [UInt32.toNat_shiftRight, h1, Nat.shiftRight_eq_div_pow]
    have : (UInt32.ofNat k).toNat % 32 = k := by
      show (BitVec.ofNat 32 k).toNat % 32 = k
      rw [BitVec.toNat_ofNat]
      omega
    rw [this]
  have h3 : x.toInt.toNat / 2 ^ k ≤ x.toInt.toNat := Nat.div_le_self _ _
  have h4 : (x.toUInt32 >>> UInt32.ofNat k).toInt32.toBitVec.toNat < 2147483648 := by
    show (x.toUInt32 >>> UInt32.ofNat k).toNat < 2147483648
    rw [h2]
    omega
  rw [pj_t31 h4]
  show (((x.toUInt32 >>> UInt32.ofNat k).toNat : Nat) : Int) = _
  rw [h2]
  have h5 : x.toInt = (x.toInt.toNat : Int) := by omega
  conv => rhs; rw [h5]
  exact (Int.natCast_ediv _ _).symm ▸ rfl
/-- the reference's whole of the shares -/
def pj_sh (G : pj_G) (e : Nat) : Prop := ∃ w : Int64, pj_fv G 171 47 = some (.long w) ∧ w.toInt = 10 ^ e
def pj_shz (G : pj_G) : Prop := ∃ w : Int64, pj_fv G 171 47 = some (.long w) ∧ w.toInt ≠ 0
theorem pj_sh_z {G : pj_G} {e : Nat} (h : pj_sh G e) : pj_shz G := by
  obtain ⟨w, h1, h2⟩ := h
  exact ⟨w, h1, by rw [h2]; exact Int.ne_of_gt (Int.pow_pos (by decide))⟩
theorem pj_sh_l {G H : pj_G} {a j e : Nat} {x : Int64} (h : H = pj_wl G a j x) (q : pj_sh G e) : pj_sh H e := by
  rw [h]
  unfold pj_sh
  rw [pj_fv_wl]
  exact q
theorem pj_fv_wv_eq {G : pj_G} (hS : pj_coks pj_tb G.1 = true) {a ci k : Nat} {l : List Nat} (hk : pj_kd a ci k = some l) (v : Value) : pj_fv (pj_wv G a k v) a k = some v := by
  obtain ⟨fs, w, hg, hv, hok, -⟩ := pj_kd_s hS hk
  rw [pj_wv_eq hg]
  unfold pj_fv
  rw [pj_gp hg]
  exact List.getElem?_set_self (List.getElem?_eq_some_iff.mp hv).1
theorem pj_sh_1 {G H : pj_G} (hI : pj_Inv G) (h : H = pj_wv G 171 47 (.long (Int64.ofNat 1))) : pj_sh H 0 := by
  rw [h]
  exact ⟨_, pj_fv_wv_eq hI.1 (ci := 12) rfl _, by decide⟩
theorem pj_sh_m {G H : pj_G} {w : Int64} {e : Nat} (hI : pj_Inv G) (h : H = pj_wv G 171 47 (.long (w * Int64.ofInt 10))) (hw : w.toInt = 10 ^ e) (he : e ≤ 12) : pj_sh H (e + 1) := by
  rw [h]
  refine ⟨_, pj_fv_wv_eq hI.1 (ci := 12) rfl _, ?_⟩
  have h2 : (10 : Int) ^ e ≤ 10 ^ 12 := by exact_mod_cast Nat.pow_le_pow_right (by decide) he
  have h3 : (0 : Int) < 10 ^ e := Int.pow_pos (by decide)
  rw [Int64.toInt_mul, hw, show (Int64.ofInt 10).toInt = 10 by decide, Int.pow_succ]
  exact Int.bmod_eq_of_le (by omega) (by omega)
theorem pj_X_glk {d : Nat} {M : pj_M} {G : pj_G} {pc : Nat} {L : pj_L} {S : List Value} {P : Option Value → pj_G → Prop} {idx len : Nat} {inf : List Nat} {z : Int} {a : Nat} {x : Int64} (hI : pj_Inv G) (hf : pj_find M.2.2.2.2.2 pc = some (.getfield idx, len, inf, z)) (hk : pj_kd a (inf.getD 0 0) (inf.getD 1 0) = some [0]) (hv : pj_fv G a (inf.getD 1 0) = some (.long x)) (h2 : pj_X d M G (pc + 3) L (.long x :: S) P) : pj_X d M G pc L (.ref a :: S) P := by
  refine pj_X_of (fun r h => pj_T_gl hI hf hk (fun y hy => ?_)) h2
  rw [hv] at hy
  cases hy
  exact h
def kc_258 : pj_KT := ([(171, 47)], [171, 194, 195], [])
theorem lp_ct_258 (G0 : pj_G) (hI0 : pj_Inv G0) (b : Int32) (p : Int32) (n : Int32) (rb : (0 : Int) ≤ b.toInt ∧ b.toInt ≤ 5) (rp : (0 : Int) ≤ p.toInt ∧ p.toInt ≤ 10) (rn : (0 : Int) ≤ n.toInt ∧ n.toInt ≤ 12) : ∀ mn : Nat, (∀ (G : pj_G) (hI : pj_Inv G) (hK : pj_kpt kc_258 G0 G) (v4 : Int32), ((0 : Int) ≤ v4.toInt ∧ v4.toInt ≤ 10) → (pj_sh G 0) → 5000 - v4.toInt < (mn : Int) → pj_X 1 pj_m258 G 8 [(0, .ref 171), (1, .int b), (2, .int p), (3, .int n), (4, .int v4)] [] (fun v G' => v = none ∧ pj_Inv G' ∧ pj_kpt kc_258 G0 G' ∧ (pj_shz G'))) ∧ (∀ (G : pj_G) (hI : pj_Inv G) (hK : pj_kpt kc_258 G0 G) (v4 : Int32), ((0 : Int) ≤ v4.toInt ∧ v4.toInt ≤ 12) → (pj_sh G v4.toInt.toNat) → 100 * (12 - v4.toInt) < (mn : Int) → pj_X 1 pj_m258 G 57 [(0, .ref 171), (1, .int b), (2, .int p), (3, .int n), (4, .int v4)] [] (fun v G' => v = none ∧ pj_Inv G' ∧ pj_kpt kc_258 G0 G' ∧ (pj_shz G'))) ∧ (∀ (G : pj_G) (hI : pj_Inv G) (hK : pj_kpt kc_258 G0 G) (v4 : Int32) (v5 : Int32), ((0 : Int) ≤ v4.toInt ∧ v4.toInt ≤ 11) → ((0 : Int) ≤ v5.toInt ∧ v5.toInt ≤ 10) → (pj_sh G (v4.toInt.toNat + 1)) → (v4.toInt < n.toInt) → 100 * (12 - v4.toInt) - 1 - v5.toInt < (mn : Int) → pj_X 1 pj_m258 G 78 [(0, .ref 171), (1, .int b), (2, .int p), (3, .int n), (4, .int v4), (5, .int v5)] [] (fun v G' => v = none ∧ pj_Inv G' ∧ pj_kpt kc_258 G0 G' ∧ (pj_shz G'))) ∧ (∀ (G : pj_G) (hI : pj_Inv G) (hK : pj_kpt kc_258 G0 G) (v4 : Int32) (v5 : Int32), ((0 : Int) ≤ v4.toInt ∧ v4.toInt ≤ 11) → ((0 : Int) ≤ v5.toInt ∧ v5.toInt ≤ 10) → (pj_sh G (v4.toInt.toNat + 1)) → (v4.toInt < n.toInt) → 100 * (12 - v4.toInt) - 20 - v5.toInt < (mn : Int) → pj_X 1 pj_m258 G 104 [(0, .ref 171), (1, .int b), (2, .int p), (3, .int n), (4, .int v4), (5, .int v5)] [] (fun v G' => v = none ∧ pj_Inv G' ∧ pj_kpt kc_258 G0 G' ∧ (pj_shz G'))) ∧ (∀ (G : pj_G) (hI : pj_Inv G) (hK : pj_kpt kc_258 G0 G) (v4 : Int32) (v5 : Int32), ((0 : Int) ≤ v4.toInt ∧ v4.toInt ≤ 11) → ((0 : Int) ≤ v5.toInt ∧ v5.toInt ≤ 10) → (pj_sh G (v4.toInt.toNat + 1)) → (v4.toInt < n.toInt) → 100 * (12 - v4.toInt) - 40 - v5.toInt < (mn : Int) → pj_X 1 pj_m258 G 188 [(0, .ref 171), (1, .int b), (2, .int p), (3, .int n), (4, .int v4), (5, .int v5)] [] (fun v G' => v = none ∧ pj_Inv G' ∧ pj_kpt kc_258 G0 G' ∧ (pj_shz G'))) := by
  have c0_ : ((Int8.ofInt 10).toInt32).toInt = 10 := by decide
  have c1_ : (Int32.ofInt 0).toInt = 0 := by decide
  have c2_ : (Int32.ofInt 1).toInt = 1 := by decide
  have c3_ : (Int32.ofInt 4).toInt = 4 := by decide
  intro mn
  induction mn with
  | zero =>
    refine ⟨?_, ?_, ?_, ?_, ?_⟩
    · intro G hI hK v4 rv4 x0_ hm
      exfalso
      omega
    · intro G hI hK v4 rv4 x0_ hm
      exfalso
      omega
    · intro G hI hK v4 v5 rv4 rv5 x0_ x1_ hm
      exfalso
      omega
    · intro G hI hK v4 v5 rv4 rv5 x0_ x1_ hm
      exfalso
      omega
    · intro G hI hK v4 v5 rv4 rv5 x0_ x1_ hm
      exfalso
      omega
  | succ mn ih =>
    refine ⟨?_, ?_, ?_, ?_, ?_⟩
    · intro G hI hK v4 rv4 x0_ hm
      refine pj_X_of (fun r h => pj_R_to (G, 11, [(0, .ref 171), (1, .int b), (2, .int p), (3, .int n), (4, .int v4)], [.ref 171, .int v4], 0, 0) 11 3 (fun _ => rfl) h) ?_
      refine pj_X_of (fun r h => pj_T_gi hI rfl rfl h) ?_
      show pj_X _ _ G 14 [(0, .ref 171), (1, .int b), (2, .int p), (3, .int n), (4, .int v4)] [.int (pj_fi G 171 4), .int v4] _
      obtain ⟨y1, hy1⟩ : ∃ z : Int32, z = pj_fi G 171 4 := ⟨_, rfl⟩
      refine pj_X_eqi hy1.symm ?_
      have ey1 : (pj_fi G 171 4).toInt = y1.toInt := by rw [hy1]
      have ry1 : (0 : Int) ≤ y1.toInt ∧ y1.toInt ≤ 10 := by rw [hy1]; exact hI.2.1 171 4 (0, 10) rfl
      cases b2 : pj_c1 .ge v4 y1 with
      | true =>
        have ub2 := pj_u_geT b2
        refine pj_X_of (fun r h => pj_R_icT 54 rfl rfl b2 h) ?_
        refine pj_X_of (fun r h => pj_R_to (G, 57, [(4, .int (Int32.ofInt 0)), (0, .ref 171), (1, .int b), (2, .int p), (3, .int n)], [], 0, 0) 57 3 (fun _ => rfl) h) ?_
        exact pj_X_sub [(0, .ref 171), (1, .int b), (2, .int p), (3, .int n), (4, .int (Int32.ofInt 0))] (show List.Nodup [0, 1, 2, 3, 4] by decide) ⟨rfl, rfl, rfl, rfl, rfl, trivial⟩ (ih.2.1 G hI hK (Int32.ofInt 0) ⟨by omega, by omega⟩ (by have q := x0_; have e : (Int32.ofInt 0).toInt.toNat = 0 := (by omega); rw [e]; exact q) (by omega))
      | false =>
        have ub2 := pj_u_geF b2
        refine pj_X_of (fun r h => pj_R_icF rfl b2 h) ?_
        refine pj_X_of (fun r h => pj_R_to (G, 18, [(0, .ref 171), (1, .int b), (2, .int p), (3, .int n), (4, .int v4)], [.ref 171], 0, 0) 18 2 (fun _ => rfl) h) ?_
        refine pj_X_of (fun r h => pj_T_gr hI rfl rfl rfl h) ?_
        refine pj_X_of (fun r h => pj_R_to (G, 26, [(0, .ref 171), (1, .int b), (2, .int p), (3, .int n), (4, .int v4)], [.ref 171, .int v4, .int v4, .ref 194], 0, 0) 26 4 (fun _ => rfl) h) ?_
        refine pj_X_of (fun r h => pj_T_gr hI rfl rfl rfl h) ?_
        refine pj_X_of (fun r h => pj_R_to (G, 32, [(0, .ref 171), (1, .int b), (2, .int p), (3, .int n), (4, .int v4)], [.int ((Int32.ofInt 4) * b), .ref 179, .int v4, .int v4, .ref 194], 0, 0) 32 4 (fun _ => rfl) h) ?_
        obtain ⟨z3, hz3⟩ : ∃ z : Int32, z = (Int32.ofInt 4) * b := ⟨_, rfl⟩
        refine pj_X_eqi hz3.symm ?_
        have fz3_0 : z3.toInt = 4 * b.toInt := by rw [hz3]; exact pj_mulL (by decide) (by omega) (by omega)
        refine pj_X_of (fun r h => pj_R_to (G, 34, [(0, .ref 171), (1, .int b), (2, .int p), (3, .int n), (4, .int v4)], [.int (z3 + (Int32.ofInt 0)), .ref 179, .int v4, .int v4, .ref 194], 0, 0) 34 3 (fun _ => rfl) h) ?_
        obtain ⟨z4, hz4⟩ : ∃ z : Int32, z = z3 + (Int32.ofInt 0) := ⟨_, rfl⟩
        refine pj_X_eqi hz4.symm ?_
        have fz4_0 : z4.toInt = z3.toInt + (Int32.ofInt 0).toInt := by rw [hz4]; exact pj_addI (by have := pj_i32 z3; have := pj_i32 (Int32.ofInt 0); omega) (by have := pj_i32 z3; have := pj_i32 (Int32.ofInt 0); omega)
        refine pj_X_of (fun r h => pj_T_il hI rfl rfl (by omega) (by omega) h) ?_
        show pj_X _ _ G 35 [(0, .ref 171), (1, .int b), (2, .int p), (3, .int n), (4, .int v4)] [.int (pj_ai G 179 z4.toInt.toNat), .int v4, .int v4, .ref 194] _
        obtain ⟨z5, hz5⟩ : ∃ z : Int32, z = pj_ai G 179 z4.toInt.toNat := ⟨_, rfl⟩
        refine pj_X_eqi hz5.symm ?_
        have ez5 : (pj_ai G 179 z4.toInt.toNat).toInt = z5.toInt := by rw [hz5]
        have fz5_0 : -1 ≤ z5.toInt ∧ z5.toInt ≤ 9 := by rw [hz5]; exact ((hI.2.2.2 179 32 rfl _ (by show _ < 32; omega)).1 (by omega)).1 (by omega)
        cases b6 : pj_c1 .ne v4 z5 with
        | true =>
          have ub6 := pj_u_neT b6
          refine pj_X_of (fun r h => pj_R_icT 42 rfl rfl b6 h) ?_
          refine pj_X_of (fun r h => pj_R_to (G, 43, [(0, .ref 171), (1, .int b), (2, .int p), (3, .int n), (4, .int v4)], [.int (Int32.ofInt 0), .int v4, .ref 194], 0, 0) 43 2 (fun _ => rfl) h) ?_
          refine pj_X_ca (vs := [.int (Int32.ofInt 0)]) rfl (fun _ => rfl) ⟨Nat.le_of_ble_eq_true rfl, Nat.le_of_ble_eq_true rfl, rfl⟩ ⟨rfl, rfl⟩ (pj_Y_up (by decide) (ct_172x G hI (Int32.ofInt 0) ⟨by omega, by omega⟩)) ?_
          rintro _ _ ⟨y7, rfl, rfl, ry7, ey7, fy7⟩
          show pj_X _ _ G 46 [(0, .ref 171), (1, .int b), (2, .int p), (3, .int n), (4, .int v4)] [.int y7, .int v4, .ref 194] _
          refine pj_X_of (fun r h => pj_R_to (G, 47, [(0, .ref 171), (1, .int b), (2, .int p), (3, .int n), (4, .int v4)], [.long y7.toInt64, .int v4, .ref 194], 0, 0) 47 2 (fun _ => rfl) h) ?_
          refine pj_X_of (fun r h => pj_T_ls hI rfl rfl (by omega) (by omega) h) ?_
          show pj_X _ _ (pj_wl G 194 v4.toInt.toNat y7.toInt64) 48 [(0, .ref 171), (1, .int b), (2, .int p), (3, .int n), (4, .int v4)] [] _
          obtain ⟨G8, hG8⟩ : ∃ H, H = pj_wl G 194 v4.toInt.toNat y7.toInt64 := ⟨_, rfl⟩
          have iG8 : pj_Inv G8 := by rw [hG8]; exact pj_Inv_wl hI rfl
          have kG8 : pj_kpt kc_258 G0 G8 := by rw [hG8]; exact pj_kpt_l hK rfl
          rw [← hG8]
          refine pj_X_of (fun r h => pj_R_to (G8, 51, [(4, .int (v4 + Int32.ofInt 1)), (0, .ref 171), (1, .int b), (2, .int p), (3, .int n)], [], 0, 0) 51 2 (fun _ => rfl) h) ?_
          obtain ⟨z9, hz9⟩ : ∃ z : Int32, z = v4 + Int32.ofInt 1 := ⟨_, rfl⟩
          rw [← hz9]
          have fz9_0 : z9.toInt = v4.toInt + (Int32.ofInt 1).toInt := by rw [hz9]; exact pj_addI (by have := pj_i32 v4; have := pj_i32 (Int32.ofInt 1); omega) (by have := pj_i32 v4; have := pj_i32 (Int32.ofInt 1); omega)
          refine pj_X_of (fun r h => pj_R_to (G8, 8, [(4, .int z9), (0, .ref 171), (1, .int b), (2, .int p), (3, .int n)], [], 0, 0) 8 2 (fun _ => rfl) h) ?_
          exact pj_X_sub [(0, .ref 171), (1, .int b), (2, .int p), (3, .int n), (4, .int z9)] (show List.Nodup [0, 1, 2, 3, 4] by decide) ⟨rfl, rfl, rfl, rfl, rfl, trivial⟩ (ih.1 G8 iG8 kG8 z9 ⟨by omega, by omega⟩ (pj_sh_l hG8 x0_) (by omega))
        | false =>
          have ub6 := pj_u_neF b6
          refine pj_X_of (fun r h => pj_R_icF rfl b6 h) ?_
          refine pj_X_of (fun r h => pj_R_to (G, 43, [(0, .ref 171), (1, .int b), (2, .int p), (3, .int n), (4, .int v4)], [.int (Int32.ofInt 1), .int v4, .ref 194], 0, 0) 43 3 (fun _ => rfl) h) ?_
          refine pj_X_ca (vs := [.int (Int32.ofInt 1)]) rfl (fun _ => rfl) ⟨Nat.le_of_ble_eq_true rfl, Nat.le_of_ble_eq_true rfl, rfl⟩ ⟨rfl, rfl⟩ (pj_Y_up (by decide) (ct_172x G hI (Int32.ofInt 1) ⟨by omega, by omega⟩)) ?_
          rintro _ _ ⟨y10, rfl, rfl, ry10, ey10, fy10⟩
          show pj_X _ _ G 46 [(0, .ref 171), (1, .int b), (2, .int p), (3, .int n), (4, .int v4)] [.int y10, .int v4, .ref 194] _
          refine pj_X_of (fun r h => pj_R_to (G, 47, [(0, .ref 171), (1, .int b), (2, .int p), (3, .int n), (4, .int v4)], [.long y10.toInt64, .int v4, .ref 194], 0, 0) 47 2 (fun _ => rfl) h) ?_
          refine pj_X_of (fun r h => pj_T_ls hI rfl rfl (by omega) (by omega) h) ?_
          show pj_X _ _ (pj_wl G 194 v4.toInt.toNat y10.toInt64) 48 [(0, .ref 171), (1, .int b), (2, .int p), (3, .int n), (4, .int v4)] [] _
          obtain ⟨G11, hG11⟩ : ∃ H, H = pj_wl G 194 v4.toInt.toNat y10.toInt64 := ⟨_, rfl⟩
          have iG11 : pj_Inv G11 := by rw [hG11]; exact pj_Inv_wl hI rfl
          have kG11 : pj_kpt kc_258 G0 G11 := by rw [hG11]; exact pj_kpt_l hK rfl
          rw [← hG11]
          refine pj_X_of (fun r h => pj_R_to (G11, 51, [(4, .int (v4 + Int32.ofInt 1)), (0, .ref 171), (1, .int b), (2, .int p), (3, .int n)], [], 0, 0) 51 2 (fun _ => rfl) h) ?_
          obtain ⟨z12, hz12⟩ : ∃ z : Int32, z = v4 + Int32.ofInt 1 := ⟨_, rfl⟩
          rw [← hz12]
          have fz12_0 : z12.toInt = v4.toInt + (Int32.ofInt 1).toInt := by rw [hz12]; exact pj_addI (by have := pj_i32 v4; have := pj_i32 (Int32.ofInt 1); omega) (by have := pj_i32 v4; have := pj_i32 (Int32.ofInt 1); omega)
          refine pj_X_of (fun r h => pj_R_to (G11, 8, [(4, .int z12), (0, .ref 171), (1, .int b), (2, .int p), (3, .int n)], [], 0, 0) 8 2 (fun _ => rfl) h) ?_
          exact pj_X_sub [(0, .ref 171), (1, .int b), (2, .int p), (3, .int n), (4, .int z12)] (show List.Nodup [0, 1, 2, 3, 4] by decide) ⟨rfl, rfl, rfl, rfl, rfl, trivial⟩ (ih.1 G11 iG11 kG11 z12 ⟨by omega, by omega⟩ (pj_sh_l hG11 x0_) (by omega))
    · intro G hI hK v4 rv4 x0_ hm
      refine pj_X_of (fun r h => pj_R_to (G, 60, [(0, .ref 171), (1, .int b), (2, .int p), (3, .int n), (4, .int v4)], [.int n, .int v4], 0, 0) 60 3 (fun _ => rfl) h) ?_
      cases b13 : pj_c1 .ge v4 n with
      | true =>
        have ub13 := pj_u_geT b13
        refine pj_X_of (fun r h => pj_R_icT 223 rfl rfl b13 h) ?_
        exact pj_X_rt rfl rfl ⟨rfl, hI, hK, pj_sh_z x0_⟩
      | false =>
        have ub13 := pj_u_geF b13
        refine pj_X_of (fun r h => pj_R_icF rfl b13 h) ?_
        refine pj_X_of (fun r h => pj_R_to (G, 65, [(0, .ref 171), (1, .int b), (2, .int p), (3, .int n), (4, .int v4)], [.ref 171, .ref 171], 0, 0) 65 3 (fun _ => rfl) h) ?_
        obtain ⟨w14, hw14, ew14⟩ := x0_
        refine pj_X_glk hI rfl rfl hw14 ?_
        refine pj_X_of (fun r h => pj_R_to (G, 72, [(0, .ref 171), (1, .int b), (2, .int p), (3, .int n), (4, .int v4)], [.long (w14 * (Int64.ofInt 10)), .ref 171], 0, 0) 72 3 (fun _ => rfl) h) ?_
        refine pj_X_of (fun r h => pj_T_pf hI rfl rfl rfl h) ?_
        show pj_X _ _ (pj_wv G 171 47 (.long (w14 * (Int64.ofInt 10)))) 75 [(0, .ref 171), (1, .int b), (2, .int p), (3, .int n), (4, .int v4)] [] _
        obtain ⟨G15, hG15⟩ : ∃ H, H = pj_wv G 171 47 (.long (w14 * (Int64.ofInt 10))) := ⟨_, rfl⟩
        have iG15 : pj_Inv G15 := by rw [hG15]; exact pj_Inv_wv hI (ci := 12) rfl rfl rfl
        have kG15 : pj_kpt kc_258 G0 G15 := by rw [hG15]; exact pj_kpt_v hK rfl
        rw [← hG15]
        have sh16 := pj_sh_m hI hG15 ew14 (by omega)
        refine pj_X_of (fun r h => pj_R_to (G15, 78, [(5, .int (Int32.ofInt 0)), (0, .ref 171), (1, .int b), (2, .int p), (3, .int n), (4, .int v4)], [], 0, 0) 78 3 (fun _ => rfl) h) ?_
        exact pj_X_sub [(0, .ref 171), (1, .int b), (2, .int p), (3, .int n), (4, .int v4), (5, .int (Int32.ofInt 0))] (show List.Nodup [0, 1, 2, 3, 4, 5] by decide) ⟨rfl, rfl, rfl, rfl, rfl, rfl, trivial⟩ (ih.2.2.1 G15 iG15 kG15 v4 (Int32.ofInt 0) ⟨by omega, by omega⟩ ⟨by omega, by omega⟩ sh16 (by omega) (by omega))
    · intro G hI hK v4 v5 rv4 rv5 x0_ x1_ hm
      refine pj_X_of (fun r h => pj_R_to (G, 81, [(0, .ref 171), (1, .int b), (2, .int p), (3, .int n), (4, .int v4), (5, .int v5)], [.ref 171, .int v5], 0, 0) 81 3 (fun _ => rfl) h) ?_
      refine pj_X_of (fun r h => pj_T_gi hI rfl rfl h) ?_
      show pj_X _ _ G 84 [(0, .ref 171), (1, .int b), (2, .int p), (3, .int n), (4, .int v4), (5, .int v5)] [.int (pj_fi G 171 4), .int v5] _
      obtain ⟨y17, hy17⟩ : ∃ z : Int32, z = pj_fi G 171 4 := ⟨_, rfl⟩
      refine pj_X_eqi hy17.symm ?_
      have ey17 : (pj_fi G 171 4).toInt = y17.toInt := by rw [hy17]
      have ry17 : (0 : Int) ≤ y17.toInt ∧ y17.toInt ≤ 10 := by rw [hy17]; exact hI.2.1 171 4 (0, 10) rfl
      cases b18 : pj_c1 .ge v5 y17 with
      | true =>
        have ub18 := pj_u_geT b18
        refine pj_X_of (fun r h => pj_R_icT 101 rfl rfl b18 h) ?_
        refine pj_X_of (fun r h => pj_R_to (G, 104, [(5, .int (Int32.ofInt 0)), (0, .ref 171), (1, .int b), (2, .int p), (3, .int n), (4, .int v4)], [], 0, 0) 104 3 (fun _ => rfl) h) ?_
        exact pj_X_sub [(0, .ref 171), (1, .int b), (2, .int p), (3, .int n), (4, .int v4), (5, .int (Int32.ofInt 0))] (show List.Nodup [0, 1, 2, 3, 4, 5] by decide) ⟨rfl, rfl, rfl, rfl, rfl, rfl, trivial⟩ (ih.2.2.2.1 G hI hK v4 (Int32.ofInt 0) ⟨by omega, by omega⟩ ⟨by omega, by omega⟩ x0_ (by omega) (by omega))
      | false =>
        have ub18 := pj_u_geF b18
        refine pj_X_of (fun r h => pj_R_icF rfl b18 h) ?_
        refine pj_X_of (fun r h => pj_R_to (G, 88, [(0, .ref 171), (1, .int b), (2, .int p), (3, .int n), (4, .int v4), (5, .int v5)], [.ref 171], 0, 0) 88 2 (fun _ => rfl) h) ?_
        refine pj_X_of (fun r h => pj_T_gr hI rfl rfl rfl h) ?_
        refine pj_X_of (fun r h => pj_R_to (G, 94, [(0, .ref 171), (1, .int b), (2, .int p), (3, .int n), (4, .int v4), (5, .int v5)], [.long (Int64.ofNat 0), .int v5, .ref 195], 0, 0) 94 3 (fun _ => rfl) h) ?_
        refine pj_X_of (fun r h => pj_T_ls hI rfl rfl (by omega) (by omega) h) ?_
        show pj_X _ _ (pj_wl G 195 v5.toInt.toNat (Int64.ofNat 0)) 95 [(0, .ref 171), (1, .int b), (2, .int p), (3, .int n), (4, .int v4), (5, .int v5)] [] _
        obtain ⟨G19, hG19⟩ : ∃ H, H = pj_wl G 195 v5.toInt.toNat (Int64.ofNat 0) := ⟨_, rfl⟩
        have iG19 : pj_Inv G19 := by rw [hG19]; exact pj_Inv_wl hI rfl
        have kG19 : pj_kpt kc_258 G0 G19 := by rw [hG19]; exact pj_kpt_l hK rfl
        rw [← hG19]
        refine pj_X_of (fun r h => pj_R_to (G19, 98, [(5, .int (v5 + Int32.ofInt 1)), (0, .ref 171), (1, .int b), (2, .int p), (3, .int n), (4, .int v4)], [], 0, 0) 98 2 (fun _ => rfl) h) ?_
        obtain ⟨z20, hz20⟩ : ∃ z : Int32, z = v5 + Int32.ofInt 1 := ⟨_, rfl⟩
        rw [← hz20]
        have fz20_0 : z20.toInt = v5.toInt + (Int32.ofInt 1).toInt := by rw [hz20]; exact pj_addI (by have := pj_i32 v5; have := pj_i32 (Int32.ofInt 1); omega) (by have := pj_i32 v5; have := pj_i32 (Int32.ofInt 1); omega)
        refine pj_X_of (fun r h => pj_R_to (G19, 78, [(5, .int z20), (0, .ref 171), (1, .int b), (2, .int p), (3, .int n), (4, .int v4)], [], 0, 0) 78 2 (fun _ => rfl) h) ?_
        exact pj_X_sub [(0, .ref 171), (1, .int b), (2, .int p), (3, .int n), (4, .int v4), (5, .int z20)] (show List.Nodup [0, 1, 2, 3, 4, 5] by decide) ⟨rfl, rfl, rfl, rfl, rfl, rfl, trivial⟩ (ih.2.2.1 G19 iG19 kG19 v4 z20 ⟨by omega, by omega⟩ ⟨by omega, by omega⟩ (pj_sh_l hG19 x0_) (by omega) (by omega))
    · intro G hI hK v4 v5 rv4 rv5 x0_ x1_ hm
      refine pj_X_of (fun r h => pj_R_to (G, 107, [(0, .ref 171), (1, .int b), (2, .int p), (3, .int n), (4, .int v4), (5, .int v5)], [.ref 171, .int v5], 0, 0) 107 3 (fun _ => rfl) h) ?_
      refine pj_X_of (fun r h => pj_T_gi hI rfl rfl h) ?_
      show pj_X _ _ G 110 [(0, .ref 171), (1, .int b), (2, .int p), (3, .int n), (4, .int v4), (5, .int v5)] [.int (pj_fi G 171 4), .int v5] _
      obtain ⟨y21, hy21⟩ : ∃ z : Int32, z = pj_fi G 171 4 := ⟨_, rfl⟩
      refine pj_X_eqi hy21.symm ?_
      have ey21 : (pj_fi G 171 4).toInt = y21.toInt := by rw [hy21]
      have ry21 : (0 : Int) ≤ y21.toInt ∧ y21.toInt ≤ 10 := by rw [hy21]; exact hI.2.1 171 4 (0, 10) rfl
      cases b22 : pj_c1 .ge v5 y21 with
      | true =>
        have ub22 := pj_u_geT b22
        refine pj_X_of (fun r h => pj_R_icT 185 rfl rfl b22 h) ?_
        refine pj_X_of (fun r h => pj_R_to (G, 188, [(5, .int (Int32.ofInt 0)), (0, .ref 171), (1, .int b), (2, .int p), (3, .int n), (4, .int v4)], [], 0, 0) 188 3 (fun _ => rfl) h) ?_
        exact pj_X_sub [(0, .ref 171), (1, .int b), (2, .int p), (3, .int n), (4, .int v4), (5, .int (Int32.ofInt 0))] (show List.Nodup [0, 1, 2, 3, 4, 5] by decide) ⟨rfl, rfl, rfl, rfl, rfl, rfl, trivial⟩ (ih.2.2.2.2 G hI hK v4 (Int32.ofInt 0) ⟨by omega, by omega⟩ ⟨by omega, by omega⟩ x0_ (by omega) (by omega))
      | false =>
        have ub22 := pj_u_geF b22
        refine pj_X_of (fun r h => pj_R_icF rfl b22 h) ?_
        refine pj_X_of (fun r h => pj_R_to (G, 116, [(0, .ref 171), (1, .int b), (2, .int p), (3, .int n), (4, .int v4), (5, .int v5)], [.int v5, .ref 171], 0, 0) 116 3 (fun _ => rfl) h) ?_
        refine pj_X_ca (vs := [.ref 171, .int v5]) rfl (fun _ => rfl) ⟨Nat.le_of_ble_eq_true rfl, Nat.le_of_ble_eq_true rfl, pj_T_rcv hI rfl⟩ ⟨rfl, rfl⟩ (pj_Y_up (by decide) (ct_256 G hI v5 ⟨by omega, by omega⟩)) ?_
        rintro _ _ ⟨y23, rfl, rfl, ry23, ey23⟩
        show pj_X _ _ G 119 [(0, .ref 171), (1, .int b), (2, .int p), (3, .int n), (4, .int v4), (5, .int v5)] [.int y23] _
        refine pj_X_of (fun r h => pj_R_to (G, 122, [(6, .int y23), (0, .ref 171), (1, .int b), (2, .int p), (3, .int n), (4, .int v4), (5, .int v5)], [.ref 171], 0, 0) 122 3 (fun _ => rfl) h) ?_
        refine pj_X_of (fun r h => pj_T_gr hI rfl rfl rfl h) ?_
        refine pj_X_of (fun r h => pj_R_to (G, 128, [(6, .int y23), (0, .ref 171), (1, .int b), (2, .int p), (3, .int n), (4, .int v4), (5, .int v5)], [.int v5, .ref 195, .int v5, .ref 195], 0, 0) 128 3 (fun _ => rfl) h) ?_
        refine pj_X_ll hI rfl rfl (by omega) (by omega) (fun w24 => ?_)
        show pj_X _ _ G 129 [(6, .int y23), (0, .ref 171), (1, .int b), (2, .int p), (3, .int n), (4, .int v4), (5, .int v5)] [.long w24, .int v5, .ref 195] _
        refine pj_X_of (fun r h => pj_R_to (G, 130, [(6, .int y23), (0, .ref 171), (1, .int b), (2, .int p), (3, .int n), (4, .int v4), (5, .int v5)], [.ref 171, .long w24, .int v5, .ref 195], 0, 0) 130 2 (fun _ => rfl) h) ?_
        refine pj_X_of (fun r h => pj_T_gr hI rfl rfl rfl h) ?_
        refine pj_X_of (fun r h => pj_R_to (G, 135, [(6, .int y23), (0, .ref 171), (1, .int b), (2, .int p), (3, .int n), (4, .int v4), (5, .int v5)], [.int v5, .ref 194, .long w24, .int v5, .ref 195], 0, 0) 135 2 (fun _ => rfl) h) ?_
        refine pj_X_ll hI rfl rfl (by omega) (by omega) (fun w25 => ?_)
        show pj_X _ _ G 136 [(6, .int y23), (0, .ref 171), (1, .int b), (2, .int p), (3, .int n), (4, .int v4), (5, .int v5)] [.long w25, .long w24, .int v5, .ref 195] _
        refine pj_X_of (fun r h => pj_R_to (G, 138, [(6, .int y23), (0, .ref 171), (1, .int b), (2, .int p), (3, .int n), (4, .int v4), (5, .int v5)], [.int y23, .long w25, .long w24, .int v5, .ref 195], 0, 0) 138 2 (fun _ => rfl) h) ?_
        cases b26 : pj_c1 .ge y23 0 with
        | true =>
          have ub26 := pj_u0_geT b26
          refine pj_X_of (fun r h => pj_R_ifT 146 rfl rfl b26 h) ?_
          refine pj_X_of (fun r h => pj_R_to (G, 150, [(6, .int y23), (0, .ref 171), (1, .int b), (2, .int p), (3, .int n), (4, .int v4), (5, .int v5)], [.int (((Int8.ofInt 10).toInt32) - p), .long w25, .long w24, .int v5, .ref 195], 0, 0) 150 4 (fun _ => rfl) h) ?_
          obtain ⟨z27, hz27⟩ : ∃ z : Int32, z = ((Int8.ofInt 10).toInt32) - p := ⟨_, rfl⟩
          refine pj_X_eqi hz27.symm ?_
          have fz27_0 : z27.toInt = ((Int8.ofInt 10).toInt32).toInt - p.toInt := by rw [hz27]; exact pj_subI (by have := pj_i32 ((Int8.ofInt 10).toInt32); have := pj_i32 p; omega) (by have := pj_i32 ((Int8.ofInt 10).toInt32); have := pj_i32 p; omega)
          refine pj_X_of (fun r h => pj_R_to (G, 153, [(6, .int y23), (0, .ref 171), (1, .int b), (2, .int p), (3, .int n), (4, .int v4), (5, .int v5)], [.long (w24 + (w25 * z27.toInt64)), .int v5, .ref 195], 0, 0) 153 4 (fun _ => rfl) h) ?_
          refine pj_X_of (fun r h => pj_T_ls hI rfl rfl (by omega) (by omega) h) ?_
          show pj_X _ _ (pj_wl G 195 v5.toInt.toNat (w24 + (w25 * z27.toInt64))) 154 [(6, .int y23), (0, .ref 171), (1, .int b), (2, .int p), (3, .int n), (4, .int v4), (5, .int v5)] [] _
          obtain ⟨G28, hG28⟩ : ∃ H, H = pj_wl G 195 v5.toInt.toNat (w24 + (w25 * z27.toInt64)) := ⟨_, rfl⟩
          have iG28 : pj_Inv G28 := by rw [hG28]; exact pj_Inv_wl hI rfl
          have kG28 : pj_kpt kc_258 G0 G28 := by rw [hG28]; exact pj_kpt_l hK rfl
          rw [← hG28]
          refine pj_X_of (fun r h => pj_R_to (G28, 156, [(6, .int y23), (0, .ref 171), (1, .int b), (2, .int p), (3, .int n), (4, .int v4), (5, .int v5)], [.int y23], 0, 0) 156 2 (fun _ => rfl) h) ?_
          refine pj_X_of (fun r h => pj_R_ifF rfl (pj_b0_ltF (by omega)) h) ?_
          refine pj_X_of (fun r h => pj_R_to (G28, 160, [(6, .int y23), (0, .ref 171), (1, .int b), (2, .int p), (3, .int n), (4, .int v4), (5, .int v5)], [.ref 171], 0, 0) 160 2 (fun _ => rfl) h) ?_
          refine pj_X_of (fun r h => pj_T_gr iG28 rfl rfl rfl h) ?_
          refine pj_X_of (fun r h => pj_R_to (G28, 166, [(6, .int y23), (0, .ref 171), (1, .int b), (2, .int p), (3, .int n), (4, .int v4), (5, .int v5)], [.int y23, .ref 195, .int y23, .ref 195], 0, 0) 166 3 (fun _ => rfl) h) ?_
          refine pj_X_ll iG28 rfl rfl (by omega) (by omega) (fun w29 => ?_)
          show pj_X _ _ G28 167 [(6, .int y23), (0, .ref 171), (1, .int b), (2, .int p), (3, .int n), (4, .int v4), (5, .int v5)] [.long w29, .int y23, .ref 195] _
          refine pj_X_of (fun r h => pj_R_to (G28, 168, [(6, .int y23), (0, .ref 171), (1, .int b), (2, .int p), (3, .int n), (4, .int v4), (5, .int v5)], [.ref 171, .long w29, .int y23, .ref 195], 0, 0) 168 2 (fun _ => rfl) h) ?_
          refine pj_X_of (fun r h => pj_T_gr iG28 rfl rfl rfl h) ?_
          refine pj_X_of (fun r h => pj_R_to (G28, 173, [(6, .int y23), (0, .ref 171), (1, .int b), (2, .int p), (3, .int n), (4, .int v4), (5, .int v5)], [.int v5, .ref 194, .long w29, .int y23, .ref 195], 0, 0) 173 2 (fun _ => rfl) h) ?_
          refine pj_X_ll iG28 rfl rfl (by omega) (by omega) (fun w30 => ?_)
          show pj_X _ _ G28 174 [(6, .int y23), (0, .ref 171), (1, .int b), (2, .int p), (3, .int n), (4, .int v4), (5, .int v5)] [.long w30, .long w29, .int y23, .ref 195] _
          refine pj_X_of (fun r h => pj_R_to (G28, 178, [(6, .int y23), (0, .ref 171), (1, .int b), (2, .int p), (3, .int n), (4, .int v4), (5, .int v5)], [.long (w29 + (w30 * p.toInt64)), .int y23, .ref 195], 0, 0) 178 5 (fun _ => rfl) h) ?_
          refine pj_X_of (fun r h => pj_T_ls iG28 rfl rfl (by omega) (by omega) h) ?_
          show pj_X _ _ (pj_wl G28 195 y23.toInt.toNat (w29 + (w30 * p.toInt64))) 179 [(6, .int y23), (0, .ref 171), (1, .int b), (2, .int p), (3, .int n), (4, .int v4), (5, .int v5)] [] _
          obtain ⟨G31, hG31⟩ : ∃ H, H = pj_wl G28 195 y23.toInt.toNat (w29 + (w30 * p.toInt64)) := ⟨_, rfl⟩
          have iG31 : pj_Inv G31 := by rw [hG31]; exact pj_Inv_wl iG28 rfl
          have kG31 : pj_kpt kc_258 G0 G31 := by rw [hG31]; exact pj_kpt_l kG28 rfl
          rw [← hG31]
          refine pj_X_of (fun r h => pj_R_to (G31, 182, [(5, .int (v5 + Int32.ofInt 1)), (6, .int y23), (0, .ref 171), (1, .int b), (2, .int p), (3, .int n), (4, .int v4)], [], 0, 0) 182 2 (fun _ => rfl) h) ?_
          obtain ⟨z32, hz32⟩ : ∃ z : Int32, z = v5 + Int32.ofInt 1 := ⟨_, rfl⟩
          rw [← hz32]
          have fz32_0 : z32.toInt = v5.toInt + (Int32.ofInt 1).toInt := by rw [hz32]; exact pj_addI (by have := pj_i32 v5; have := pj_i32 (Int32.ofInt 1); omega) (by have := pj_i32 v5; have := pj_i32 (Int32.ofInt 1); omega)
          refine pj_X_of (fun r h => pj_R_to (G31, 104, [(5, .int z32), (6, .int y23), (0, .ref 171), (1, .int b), (2, .int p), (3, .int n), (4, .int v4)], [], 0, 0) 104 2 (fun _ => rfl) h) ?_
          exact pj_X_sub [(0, .ref 171), (1, .int b), (2, .int p), (3, .int n), (4, .int v4), (5, .int z32)] (show List.Nodup [0, 1, 2, 3, 4, 5] by decide) ⟨rfl, rfl, rfl, rfl, rfl, rfl, trivial⟩ (ih.2.2.2.1 G31 iG31 kG31 v4 z32 ⟨by omega, by omega⟩ ⟨by omega, by omega⟩ (pj_sh_l hG31 (pj_sh_l hG28 x0_)) (by omega) (by omega))
        | false =>
          have ub26 := pj_u0_geF b26
          refine pj_X_of (fun r h => pj_R_ifF rfl b26 h) ?_
          refine pj_X_of (fun r h => pj_R_to (G, 153, [(6, .int y23), (0, .ref 171), (1, .int b), (2, .int p), (3, .int n), (4, .int v4), (5, .int v5)], [.long (w24 + (w25 * (((Int8.ofInt 10).toInt32).toInt64))), .int v5, .ref 195], 0, 0) 153 6 (fun _ => rfl) h) ?_
          refine pj_X_of (fun r h => pj_T_ls hI rfl rfl (by omega) (by omega) h) ?_
          show pj_X _ _ (pj_wl G 195 v5.toInt.toNat (w24 + (w25 * (((Int8.ofInt 10).toInt32).toInt64)))) 154 [(6, .int y23), (0, .ref 171), (1, .int b), (2, .int p), (3, .int n), (4, .int v4), (5, .int v5)] [] _
          obtain ⟨G33, hG33⟩ : ∃ H, H = pj_wl G 195 v5.toInt.toNat (w24 + (w25 * (((Int8.ofInt 10).toInt32).toInt64))) := ⟨_, rfl⟩
          have iG33 : pj_Inv G33 := by rw [hG33]; exact pj_Inv_wl hI rfl
          have kG33 : pj_kpt kc_258 G0 G33 := by rw [hG33]; exact pj_kpt_l hK rfl
          rw [← hG33]
          refine pj_X_of (fun r h => pj_R_to (G33, 156, [(6, .int y23), (0, .ref 171), (1, .int b), (2, .int p), (3, .int n), (4, .int v4), (5, .int v5)], [.int y23], 0, 0) 156 2 (fun _ => rfl) h) ?_
          refine pj_X_of (fun r h => pj_R_ifT 179 rfl rfl (pj_b0_ltT (by omega)) h) ?_
          refine pj_X_of (fun r h => pj_R_to (G33, 182, [(5, .int (v5 + Int32.ofInt 1)), (6, .int y23), (0, .ref 171), (1, .int b), (2, .int p), (3, .int n), (4, .int v4)], [], 0, 0) 182 2 (fun _ => rfl) h) ?_
          obtain ⟨z34, hz34⟩ : ∃ z : Int32, z = v5 + Int32.ofInt 1 := ⟨_, rfl⟩
          rw [← hz34]
          have fz34_0 : z34.toInt = v5.toInt + (Int32.ofInt 1).toInt := by rw [hz34]; exact pj_addI (by have := pj_i32 v5; have := pj_i32 (Int32.ofInt 1); omega) (by have := pj_i32 v5; have := pj_i32 (Int32.ofInt 1); omega)
          refine pj_X_of (fun r h => pj_R_to (G33, 104, [(5, .int z34), (6, .int y23), (0, .ref 171), (1, .int b), (2, .int p), (3, .int n), (4, .int v4)], [], 0, 0) 104 2 (fun _ => rfl) h) ?_
          exact pj_X_sub [(0, .ref 171), (1, .int b), (2, .int p), (3, .int n), (4, .int v4), (5, .int z34)] (show List.Nodup [0, 1, 2, 3, 4, 5] by decide) ⟨rfl, rfl, rfl, rfl, rfl, rfl, trivial⟩ (ih.2.2.2.1 G33 iG33 kG33 v4 z34 ⟨by omega, by omega⟩ ⟨by omega, by omega⟩ (pj_sh_l hG33 x0_) (by omega) (by omega))
    · intro G hI hK v4 v5 rv4 rv5 x0_ x1_ hm
      refine pj_X_of (fun r h => pj_R_to (G, 191, [(0, .ref 171), (1, .int b), (2, .int p), (3, .int n), (4, .int v4), (5, .int v5)], [.ref 171, .int v5], 0, 0) 191 3 (fun _ => rfl) h) ?_
      refine pj_X_of (fun r h => pj_T_gi hI rfl rfl h) ?_
      show pj_X _ _ G 194 [(0, .ref 171), (1, .int b), (2, .int p), (3, .int n), (4, .int v4), (5, .int v5)] [.int (pj_fi G 171 4), .int v5] _
      obtain ⟨y35, hy35⟩ : ∃ z : Int32, z = pj_fi G 171 4 := ⟨_, rfl⟩
      refine pj_X_eqi hy35.symm ?_
      have ey35 : (pj_fi G 171 4).toInt = y35.toInt := by rw [hy35]
      have ry35 : (0 : Int) ≤ y35.toInt ∧ y35.toInt ≤ 10 := by rw [hy35]; exact hI.2.1 171 4 (0, 10) rfl
      cases b36 : pj_c1 .ge v5 y35 with
      | true =>
        have ub36 := pj_u_geT b36
        refine pj_X_of (fun r h => pj_R_icT 217 rfl rfl b36 h) ?_
        refine pj_X_of (fun r h => pj_R_to (G, 220, [(4, .int (v4 + Int32.ofInt 1)), (0, .ref 171), (1, .int b), (2, .int p), (3, .int n), (5, .int v5)], [], 0, 0) 220 2 (fun _ => rfl) h) ?_
        obtain ⟨z37, hz37⟩ : ∃ z : Int32, z = v4 + Int32.ofInt 1 := ⟨_, rfl⟩
        rw [← hz37]
        have fz37_0 : z37.toInt = v4.toInt + (Int32.ofInt 1).toInt := by rw [hz37]; exact pj_addI (by have := pj_i32 v4; have := pj_i32 (Int32.ofInt 1); omega) (by have := pj_i32 v4; have := pj_i32 (Int32.ofInt 1); omega)
        refine pj_X_of (fun r h => pj_R_to (G, 57, [(4, .int z37), (0, .ref 171), (1, .int b), (2, .int p), (3, .int n), (5, .int v5)], [], 0, 0) 57 2 (fun _ => rfl) h) ?_
        exact pj_X_sub [(0, .ref 171), (1, .int b), (2, .int p), (3, .int n), (4, .int z37)] (show List.Nodup [0, 1, 2, 3, 4] by decide) ⟨rfl, rfl, rfl, rfl, rfl, trivial⟩ (ih.2.1 G hI hK z37 ⟨by omega, by omega⟩ (by have q := x0_; have e : z37.toInt.toNat = v4.toInt.toNat + 1 := (by omega); rw [e]; exact q) (by omega))
      | false =>
        have ub36 := pj_u_geF b36
        refine pj_X_of (fun r h => pj_R_icF rfl b36 h) ?_
        refine pj_X_of (fun r h => pj_R_to (G, 198, [(0, .ref 171), (1, .int b), (2, .int p), (3, .int n), (4, .int v4), (5, .int v5)], [.ref 171], 0, 0) 198 2 (fun _ => rfl) h) ?_
        refine pj_X_of (fun r h => pj_T_gr hI rfl rfl rfl h) ?_
        refine pj_X_of (fun r h => pj_R_to (G, 204, [(0, .ref 171), (1, .int b), (2, .int p), (3, .int n), (4, .int v4), (5, .int v5)], [.ref 171, .int v5, .ref 194], 0, 0) 204 3 (fun _ => rfl) h) ?_
        refine pj_X_of (fun r h => pj_T_gr hI rfl rfl rfl h) ?_
        refine pj_X_of (fun r h => pj_R_to (G, 209, [(0, .ref 171), (1, .int b), (2, .int p), (3, .int n), (4, .int v4), (5, .int v5)], [.int v5, .ref 195, .int v5, .ref 194], 0, 0) 209 2 (fun _ => rfl) h) ?_
        refine pj_X_ll hI rfl rfl (by omega) (by omega) (fun w38 => ?_)
        show pj_X _ _ G 210 [(0, .ref 171), (1, .int b), (2, .int p), (3, .int n), (4, .int v4), (5, .int v5)] [.long w38, .int v5, .ref 194] _
        refine pj_X_of (fun r h => pj_T_ls hI rfl rfl (by omega) (by omega) h) ?_
        show pj_X _ _ (pj_wl G 194 v5.toInt.toNat w38) 211 [(0, .ref 171), (1, .int b), (2, .int p), (3, .int n), (4, .int v4), (5, .int v5)] [] _
        obtain ⟨G39, hG39⟩ : ∃ H, H = pj_wl G 194 v5.toInt.toNat w38 := ⟨_, rfl⟩
        have iG39 : pj_Inv G39 := by rw [hG39]; exact pj_Inv_wl hI rfl
        have kG39 : pj_kpt kc_258 G0 G39 := by rw [hG39]; exact pj_kpt_l hK rfl
        rw [← hG39]
        refine pj_X_of (fun r h => pj_R_to (G39, 214, [(5, .int (v5 + Int32.ofInt 1)), (0, .ref 171), (1, .int b), (2, .int p), (3, .int n), (4, .int v4)], [], 0, 0) 214 2 (fun _ => rfl) h) ?_
        obtain ⟨z40, hz40⟩ : ∃ z : Int32, z = v5 + Int32.ofInt 1 := ⟨_, rfl⟩
        rw [← hz40]
        have fz40_0 : z40.toInt = v5.toInt + (Int32.ofInt 1).toInt := by rw [hz40]; exact pj_addI (by have := pj_i32 v5; have := pj_i32 (Int32.ofInt 1); omega) (by have := pj_i32 v5; have := pj_i32 (Int32.ofInt 1); omega)
        refine pj_X_of (fun r h => pj_R_to (G39, 188, [(5, .int z40), (0, .ref 171), (1, .int b), (2, .int p), (3, .int n), (4, .int v4)], [], 0, 0) 188 2 (fun _ => rfl) h) ?_
        exact pj_X_sub [(0, .ref 171), (1, .int b), (2, .int p), (3, .int n), (4, .int v4), (5, .int z40)] (show List.Nodup [0, 1, 2, 3, 4, 5] by decide) ⟨rfl, rfl, rfl, rfl, rfl, rfl, trivial⟩ (ih.2.2.2.2 G39 iG39 kG39 v4 z40 ⟨by omega, by omega⟩ ⟨by omega, by omega⟩ (pj_sh_l hG39 x0_) (by omega) (by omega))
theorem ct_258 (G0 : pj_G) (hI : pj_Inv G0) (b : Int32) (p : Int32) (n : Int32) (rb : (0 : Int) ≤ b.toInt ∧ b.toInt ≤ 5) (rp : (0 : Int) ≤ p.toInt ∧ p.toInt ≤ 10) (rn : (0 : Int) ≤ n.toInt ∧ n.toInt ≤ 12) : pj_Y 2 258 [.ref 171, .int b, .int p, .int n] G0 (fun v G' => v = none ∧ pj_Inv G' ∧ pj_kpt kc_258 G0 G' ∧ (pj_shz G')) := by
  have c0_ : ((Int8.ofInt 10).toInt32).toInt = 10 := by decide
  have c1_ : (Int32.ofInt 0).toInt = 0 := by decide
  have c2_ : (Int32.ofInt 1).toInt = 1 := by decide
  have c3_ : (Int32.ofInt 4).toInt = 4 := by decide
  refine pj_Y_X (M := pj_m258) rfl rfl (Nat.le_of_ble_eq_true rfl) ?_
  have hK : pj_kpt kc_258 G0 G0 := pj_kpt_r _ _
  show pj_X _ _ G0 0 [(0, .ref 171), (1, .int b), (2, .int p), (3, .int n)] [] _
  refine pj_X_of (fun r h => pj_R_to (G0, 2, [(0, .ref 171), (1, .int b), (2, .int p), (3, .int n)], [.long (Int64.ofNat 1), .ref 171], 0, 0) 2 3 (fun _ => rfl) h) ?_
  refine pj_X_of (fun r h => pj_T_pf hI rfl rfl rfl h) ?_
  show pj_X _ _ (pj_wv G0 171 47 (.long (Int64.ofNat 1))) 5 [(0, .ref 171), (1, .int b), (2, .int p), (3, .int n)] [] _
  obtain ⟨G41, hG41⟩ : ∃ H, H = pj_wv G0 171 47 (.long (Int64.ofNat 1)) := ⟨_, rfl⟩
  have iG41 : pj_Inv G41 := by rw [hG41]; exact pj_Inv_wv hI (ci := 12) rfl rfl rfl
  have kG41 : pj_kpt kc_258 G0 G41 := by rw [hG41]; exact pj_kpt_v hK rfl
  rw [← hG41]
  have sh42 := pj_sh_1 hI hG41
  refine pj_X_of (fun r h => pj_R_to (G41, 8, [(4, .int (Int32.ofInt 0)), (0, .ref 171), (1, .int b), (2, .int p), (3, .int n)], [], 0, 0) 8 3 (fun _ => rfl) h) ?_
  exact pj_X_sub [(0, .ref 171), (1, .int b), (2, .int p), (3, .int n), (4, .int (Int32.ofInt 0))] (show List.Nodup [0, 1, 2, 3, 4] by decide) ⟨rfl, rfl, rfl, rfl, rfl, trivial⟩ ((lp_ct_258 G0 hI b p n rb rp rn 6001).1 G41 iG41 kG41 (Int32.ofInt 0) ⟨by omega, by omega⟩ sh42 (by omega))
def kc_259 : pj_KT := ([(171, 1)], [171, 172], [])
theorem ct_259 (G0 : pj_G) (hI : pj_Inv G0) (c : Int32) (rc : (0 : Int) ≤ c.toInt ∧ c.toInt ≤ 9) (p0_ : pj_shz G0) : pj_Y 133 259 [.ref 171, .int c] G0 (fun v G' => v = none ∧ pj_Inv G' ∧ pj_kpt kc_259 G0 G') := by
  have c0_ : (Int32.ofInt 0).toInt = 0 := by decide
  refine pj_Y_X (M := pj_m259) rfl rfl (Nat.le_of_ble_eq_true rfl) ?_
  have hK : pj_kpt kc_259 G0 G0 := pj_kpt_r _ _
  show pj_X _ _ G0 0 [(0, .ref 171), (1, .int c)] [] _
  obtain ⟨y1, hy1⟩ : ∃ z : Int32, z = pj_fi G0 171 1 := ⟨_, rfl⟩
  have ey1 : (pj_fi G0 171 1).toInt = y1.toInt := by rw [hy1]
  have ry1 : (0 : Int) ≤ y1.toInt ∧ y1.toInt ≤ 24 := by rw [hy1]; exact hI.2.1 171 1 (0, 24) rfl
  refine pj_X_of (fun r h => pj_R_to (G0, 1, [(0, .ref 171), (1, .int c)], [.ref 171], 0, 0) 1 2 (fun _ => rfl) h) ?_
  refine pj_X_of (fun r h => pj_T_gr hI rfl rfl rfl h) ?_
  refine pj_X_of (fun r h => pj_R_to (G0, 5, [(0, .ref 171), (1, .int c)], [.int c, .ref 194], 0, 0) 5 2 (fun _ => rfl) h) ?_
  refine pj_X_ll hI rfl rfl (by omega) (by omega) (fun w2 => ?_)
  show pj_X _ _ G0 6 [(0, .ref 171), (1, .int c)] [.long w2] _
  refine pj_X_of (fun r h => pj_R_to (G0, 7, [(0, .ref 171), (1, .int c)], [.ref 171, .long w2], 0, 0) 7 2 (fun _ => rfl) h) ?_
  obtain ⟨w3, hw3, ew3⟩ := p0_
  refine pj_X_glk hI rfl rfl hw3 ?_
  have q4 : (pj_fi G0 171 1).toInt = y1.toInt := by rw [show pj_fi G0 171 1 = y1 from hy1.symm]
  refine pj_X_ca (vs := [.long w2, .long w3]) rfl (fun _ => rfl) ⟨Nat.le_of_ble_eq_true rfl, Nat.le_of_ble_eq_true rfl, rfl⟩ ⟨rfl, rfl⟩ (pj_Y_up (by decide) (ct_173 G0 hI w2 w3 (by omega))) ?_
  rintro _ _ ⟨y5, rfl, rfl, ey5⟩
  show pj_X _ _ G0 13 [(0, .ref 171), (1, .int c)] [.long y5] _
  refine pj_X_of (fun r h => pj_R_to (G0, 16, [(2, .long y5), (0, .ref 171), (1, .int c)], [.int (Int32.ofInt 0), .ref 171], 0, 0) 16 4 (fun _ => rfl) h) ?_
  refine pj_X_of (fun r h => pj_T_pf hI rfl rfl rfl h) ?_
  show pj_X _ _ (pj_wv G0 171 1 (.int (Int32.ofInt 0))) 19 [(2, .long y5), (0, .ref 171), (1, .int c)] [] _
  obtain ⟨G6, hG6⟩ : ∃ H, H = pj_wv G0 171 1 (.int (Int32.ofInt 0)) := ⟨_, rfl⟩
  have iG6 : pj_Inv G6 := by rw [hG6]; exact pj_Inv_wi hI (ci := 12) rfl (fun q hq => by cases hq; exact ⟨by show (0 : Int) ≤ _; omega, by show _ ≤ (24 : Int); omega⟩)
  have kG6 : pj_kpt kc_259 G0 G6 := by rw [hG6]; exact pj_kpt_v hK rfl
  rw [← hG6]
  refine pj_X_of (fun r h => pj_R_to (G6, 21, [(2, .long y5), (0, .ref 171), (1, .int c)], [.ref 171, .ref 171], 0, 0) 21 3 (fun _ => rfl) h) ?_
  refine pj_X_of (fun r h => pj_T_gr iG6 rfl rfl rfl h) ?_
  refine pj_X_of (fun r h => pj_R_to (G6, 25, [(2, .long y5), (0, .ref 171), (1, .int c)], [.int c, .ref 194, .ref 171], 0, 0) 25 2 (fun _ => rfl) h) ?_
  refine pj_X_ll iG6 rfl rfl (by omega) (by omega) (fun w7 => ?_)
  show pj_X _ _ G6 26 [(2, .long y5), (0, .ref 171), (1, .int c)] [.long w7, .ref 171] _
  refine pj_X_of (fun r h => pj_R_to (G6, 27, [(2, .long y5), (0, .ref 171), (1, .int c)], [.long y5, .long w7, .ref 171], 0, 0) 27 2 (fun _ => rfl) h) ?_
  refine pj_X_of (fun r h => pj_R_ldv rfl (pj_nzl (by omega)) h) ?_
  show pj_X _ _ G6 28 [(2, .long y5), (0, .ref 171), (1, .int c)] [.long (w7 / y5), .ref 171] _
  obtain ⟨w8, hw8⟩ : ∃ z : Int64, z = w7 / y5 := ⟨_, rfl⟩
  rw [← hw8]
  have q9 : (pj_fi G6 171 1).toInt = (Int32.ofInt 0).toInt := by rw [show pj_fi G6 171 1 = Int32.ofInt 0 from by rw [hG6]; exact pj_fi_wi hI.1 (ci := 12) rfl _]
  refine pj_X_ca (vs := [.ref 171, .long w8]) rfl (fun _ => rfl) ⟨Nat.le_of_ble_eq_true rfl, Nat.le_of_ble_eq_true rfl, pj_T_rcv iG6 rfl⟩ ⟨rfl, rfl⟩ (pj_Y_up (by decide) (ct_174x G6 iG6 w8 (by omega))) ?_
  rintro _ G11 ⟨rfl, iG11, jG11, eG11, fy10⟩
  replace eG11 := eG11 _ rfl
  have kG11 : pj_kpt kc_259 G0 G11 := pj_kpt_t kG6 (pj_kpt_s jG11 rfl)
  obtain ⟨y12, hy12⟩ : ∃ z : Int32, z = pj_fi G11 171 1 := ⟨_, rfl⟩
  have ey12 : (pj_fi G11 171 1).toInt = y12.toInt := by rw [hy12]
  have ry12 : (0 : Int) ≤ y12.toInt ∧ y12.toInt ≤ 24 := by rw [hy12]; exact iG11.2.1 171 1 (0, 24) rfl
  show pj_X _ _ G11 31 [(2, .long y5), (0, .ref 171), (1, .int c)] [] _
  refine pj_X_of (fun r h => pj_R_to (G11, 33, [(2, .long y5), (0, .ref 171), (1, .int c)], [.ref 171, .ref 171], 0, 0) 33 3 (fun _ => rfl) h) ?_
  refine pj_X_gl iG11 rfl rfl (fun w13 => ?_)
  show pj_X _ _ G11 36 [(2, .long y5), (0, .ref 171), (1, .int c)] [.long w13, .ref 171] _
  refine pj_X_of (fun r h => pj_R_to (G11, 37, [(2, .long y5), (0, .ref 171), (1, .int c)], [.long y5, .long w13, .ref 171], 0, 0) 37 2 (fun _ => rfl) h) ?_
  refine pj_X_of (fun r h => pj_R_ldv rfl (pj_nzl (by omega)) h) ?_
  show pj_X _ _ G11 38 [(2, .long y5), (0, .ref 171), (1, .int c)] [.long (w13 / y5), .ref 171] _
  obtain ⟨w14, hw14⟩ : ∃ z : Int64, z = w13 / y5 := ⟨_, rfl⟩
  rw [← hw14]
  have q15 : (pj_fi G11 171 1).toInt = y12.toInt := by rw [show pj_fi G11 171 1 = y12 from hy12.symm]
  refine pj_X_ca (vs := [.ref 171, .long w14]) rfl (fun _ => rfl) ⟨Nat.le_of_ble_eq_true rfl, Nat.le_of_ble_eq_true rfl, pj_T_rcv iG11 rfl⟩ ⟨rfl, rfl⟩ (pj_Y_up (by decide) (ct_174x G11 iG11 w14 (by omega))) ?_
  rintro _ G17 ⟨rfl, iG17, jG17, eG17, fy16⟩
  replace eG17 := eG17 _ rfl
  have kG17 : pj_kpt kc_259 G0 G17 := pj_kpt_t kG11 (pj_kpt_s jG17 rfl)
  obtain ⟨y18, hy18⟩ : ∃ z : Int32, z = pj_fi G17 171 1 := ⟨_, rfl⟩
  have ey18 : (pj_fi G17 171 1).toInt = y18.toInt := by rw [hy18]
  have ry18 : (0 : Int) ≤ y18.toInt ∧ y18.toInt ≤ 24 := by rw [hy18]; exact iG17.2.1 171 1 (0, 24) rfl
  show pj_X _ _ G17 41 [(2, .long y5), (0, .ref 171), (1, .int c)] [] _
  have q19 : (pj_fi G17 171 1).toInt = y18.toInt := by rw [show pj_fi G17 171 1 = y18 from hy18.symm]
  exact pj_X_rt rfl rfl ⟨rfl, iG17, kG17⟩
def kc_260 : pj_KT := ([(171, 0), (171, 1), (171, 47)], [171, 172, 194, 195], [])
theorem ct_260 (G0 : pj_G) (hI : pj_Inv G0) (b : Int32) (p : Int32) (n : Int32) (c : Int32) : pj_Y 135 260 [.ref 171, .int b, .int p, .int n, .int c] G0 (fun v G' => ∃ y : Int32, v = some (.int y) ∧ pj_Inv G' ∧ pj_kpt kc_260 G0 G' ∧ ((-2147483648 : Int) ≤ y.toInt ∧ y.toInt ≤ 2147483647)) := by
  have c0_ : ((Int8.ofInt (-2)).toInt32).toInt = -2 := by decide
  have c1_ : (Int32.ofInt (-1)).toInt = -1 := by decide
  have c2_ : (Int32.ofInt 0).toInt = 0 := by decide
  refine pj_Y_X (M := pj_m260) rfl rfl (Nat.le_of_ble_eq_true rfl) ?_
  have hK : pj_kpt kc_260 G0 G0 := pj_kpt_r _ _
  show pj_X _ _ G0 0 [(0, .ref 171), (1, .int b), (2, .int p), (3, .int n), (4, .int c)] [] _
  refine pj_X_of (fun r h => pj_R_to (G0, 2, [(0, .ref 171), (1, .int b), (2, .int p), (3, .int n), (4, .int c)], [.int (Int32.ofInt 0), .ref 171], 0, 0) 2 3 (fun _ => rfl) h) ?_
  refine pj_X_of (fun r h => pj_T_pf hI rfl rfl rfl h) ?_
  show pj_X _ _ (pj_wv G0 171 0 (.int (Int32.ofInt 0))) 5 [(0, .ref 171), (1, .int b), (2, .int p), (3, .int n), (4, .int c)] [] _
  obtain ⟨G1, hG1⟩ : ∃ H, H = pj_wv G0 171 0 (.int (Int32.ofInt 0)) := ⟨_, rfl⟩
  have iG1 : pj_Inv G1 := by rw [hG1]; exact pj_Inv_wi hI (ci := 12) rfl (fun q hq => by cases hq)
  have kG1 : pj_kpt kc_260 G0 G1 := by rw [hG1]; exact pj_kpt_v hK rfl
  rw [← hG1]
  refine pj_X_of (fun r h => pj_R_to (G1, 7, [(0, .ref 171), (1, .int b), (2, .int p), (3, .int n), (4, .int c)], [.int b, .ref 171], 0, 0) 7 3 (fun _ => rfl) h) ?_
  refine pj_X_ca (vs := [.ref 171, .int b]) rfl (fun _ => rfl) ⟨Nat.le_of_ble_eq_true rfl, Nat.le_of_ble_eq_true rfl, pj_T_rcv iG1 rfl⟩ ⟨rfl, rfl⟩ (pj_Y_up (by decide) (ct_177x G1 iG1 b)) ?_
  rintro _ _ ⟨y2, rfl, rfl, ry2, ey2, fy2⟩
  replace ey2 := ey2 _ rfl
  show pj_X _ _ G1 10 [(0, .ref 171), (1, .int b), (2, .int p), (3, .int n), (4, .int c)] [.int y2] _
  cases b3 : pj_c1 .eq y2 0 with
  | true =>
    have ub3 := pj_u0_eqT b3
    refine pj_X_of (fun r h => pj_R_ifT 46 rfl rfl b3 h) ?_
    refine pj_X_of (fun r h => pj_R_to (G1, 47, [(0, .ref 171), (1, .int b), (2, .int p), (3, .int n), (4, .int c)], [.int (Int32.ofInt (-1))], 0, 0) 47 2 (fun _ => rfl) h) ?_
    exact pj_X_rt rfl rfl ⟨_, rfl, iG1, kG1, pj_i32 _⟩
  | false =>
    have ub3 := pj_u0_eqF b3
    refine pj_X_of (fun r h => pj_R_ifF rfl b3 h) ?_
    refine pj_X_of (fun r h => pj_R_to (G1, 19, [(0, .ref 171), (1, .int b), (2, .int p), (3, .int n), (4, .int c)], [.long (Int64.ofInt 10), .long (Int64.ofNat 0), .long p.toInt64], 0, 0) 19 5 (fun _ => rfl) h) ?_
    have lc4 : (p.toInt64).toInt = p.toInt := Int32.toInt_toInt64 _
    have lc5 : (Int64.ofNat 0).toInt = 0 := by decide
    have lc6 : (Int64.ofInt 10).toInt = 10 := by decide
    refine pj_X_ca (vs := [.long p.toInt64, .long (Int64.ofNat 0), .long (Int64.ofInt 10)]) rfl (fun _ => rfl) ⟨Nat.le_of_ble_eq_true rfl, Nat.le_of_ble_eq_true rfl, rfl⟩ ⟨rfl, rfl⟩ (pj_Y_up (by decide) (ct_170x G1 iG1 p.toInt64 (Int64.ofNat 0) (Int64.ofInt 10))) ?_
    rintro _ _ ⟨y7, rfl, rfl, ry7, ey7, fy7⟩
    show pj_X _ _ G1 22 [(0, .ref 171), (1, .int b), (2, .int p), (3, .int n), (4, .int c)] [.int y7] _
    cases b8 : pj_c1 .eq y7 0 with
    | true =>
      have ub8 := pj_u0_eqT b8
      refine pj_X_of (fun r h => pj_R_ifT 46 rfl rfl b8 h) ?_
      refine pj_X_of (fun r h => pj_R_to (G1, 47, [(0, .ref 171), (1, .int b), (2, .int p), (3, .int n), (4, .int c)], [.int (Int32.ofInt (-1))], 0, 0) 47 2 (fun _ => rfl) h) ?_
      exact pj_X_rt rfl rfl ⟨_, rfl, iG1, kG1, pj_i32 _⟩
    | false =>
      have ub8 := pj_u0_eqF b8
      refine pj_X_of (fun r h => pj_R_ifF rfl b8 h) ?_
      refine pj_X_of (fun r h => pj_R_to (G1, 31, [(0, .ref 171), (1, .int b), (2, .int p), (3, .int n), (4, .int c)], [.long (Int64.ofInt 12), .long (Int64.ofNat 0), .long n.toInt64], 0, 0) 31 5 (fun _ => rfl) h) ?_
      have lc9 : (n.toInt64).toInt = n.toInt := Int32.toInt_toInt64 _
      have lc10 : (Int64.ofNat 0).toInt = 0 := by decide
      have lc11 : (Int64.ofInt 12).toInt = 12 := by decide
      refine pj_X_ca (vs := [.long n.toInt64, .long (Int64.ofNat 0), .long (Int64.ofInt 12)]) rfl (fun _ => rfl) ⟨Nat.le_of_ble_eq_true rfl, Nat.le_of_ble_eq_true rfl, rfl⟩ ⟨rfl, rfl⟩ (pj_Y_up (by decide) (ct_170x G1 iG1 n.toInt64 (Int64.ofNat 0) (Int64.ofInt 12))) ?_
      rintro _ _ ⟨y12, rfl, rfl, ry12, ey12, fy12⟩
      show pj_X _ _ G1 34 [(0, .ref 171), (1, .int b), (2, .int p), (3, .int n), (4, .int c)] [.int y12] _
      cases b13 : pj_c1 .eq y12 0 with
      | true =>
        have ub13 := pj_u0_eqT b13
        refine pj_X_of (fun r h => pj_R_ifT 46 rfl rfl b13 h) ?_
        refine pj_X_of (fun r h => pj_R_to (G1, 47, [(0, .ref 171), (1, .int b), (2, .int p), (3, .int n), (4, .int c)], [.int (Int32.ofInt (-1))], 0, 0) 47 2 (fun _ => rfl) h) ?_
        exact pj_X_rt rfl rfl ⟨_, rfl, iG1, kG1, pj_i32 _⟩
      | false =>
        have ub13 := pj_u0_eqF b13
        refine pj_X_of (fun r h => pj_R_ifF rfl b13 h) ?_
        refine pj_X_of (fun r h => pj_R_to (G1, 40, [(0, .ref 171), (1, .int b), (2, .int p), (3, .int n), (4, .int c)], [.int c, .ref 171], 0, 0) 40 3 (fun _ => rfl) h) ?_
        refine pj_X_ca (vs := [.ref 171, .int c]) rfl (fun _ => rfl) ⟨Nat.le_of_ble_eq_true rfl, Nat.le_of_ble_eq_true rfl, pj_T_rcv iG1 rfl⟩ ⟨rfl, rfl⟩ (pj_Y_up (by decide) (ct_176x G1 iG1 c)) ?_
        rintro _ _ ⟨y14, rfl, rfl, ry14, ey14, fy14⟩
        replace ey14 := ey14 _ rfl
        show pj_X _ _ G1 43 [(0, .ref 171), (1, .int b), (2, .int p), (3, .int n), (4, .int c)] [.int y14] _
        cases b15 : pj_c1 .ne y14 0 with
        | true =>
          have ub15 := pj_u0_neT b15
          refine pj_X_of (fun r h => pj_R_ifT 48 rfl rfl b15 h) ?_
          refine pj_X_of (fun r h => pj_R_to (G1, 50, [(0, .ref 171), (1, .int b), (2, .int p), (3, .int n), (4, .int c)], [.int b, .ref 171], 0, 0) 50 3 (fun _ => rfl) h) ?_
          refine pj_X_ca (vs := [.ref 171, .int b]) rfl (fun _ => rfl) ⟨Nat.le_of_ble_eq_true rfl, Nat.le_of_ble_eq_true rfl, pj_T_rcv iG1 rfl⟩ ⟨rfl, rfl⟩ (pj_Y_up (by decide) (ct_257 G1 iG1 b ⟨by omega, by omega⟩)) ?_
          rintro _ _ ⟨y16, rfl, rfl, ry16, ey16⟩
          show pj_X _ _ G1 53 [(0, .ref 171), (1, .int b), (2, .int p), (3, .int n), (4, .int c)] [.int y16] _
          cases b17 : pj_c1 .ne y16 0 with
          | true =>
            have ub17 := pj_u0_neT b17
            refine pj_X_of (fun r h => pj_R_ifT 59 rfl rfl b17 h) ?_
            refine pj_X_of (fun r h => pj_R_to (G1, 63, [(0, .ref 171), (1, .int b), (2, .int p), (3, .int n), (4, .int c)], [.int n, .int p, .int b, .ref 171], 0, 0) 63 5 (fun _ => rfl) h) ?_
            refine pj_X_ca (vs := [.ref 171, .int b, .int p, .int n]) rfl (fun _ => rfl) ⟨Nat.le_of_ble_eq_true rfl, Nat.le_of_ble_eq_true rfl, pj_T_rcv iG1 rfl⟩ ⟨rfl, rfl⟩ (pj_Y_up (by decide) (ct_258 G1 iG1 b p n ⟨by omega, by omega⟩ ⟨by omega, by omega⟩ ⟨by omega, by omega⟩)) ?_
            rintro _ G19 ⟨rfl, iG19, jG19, eG19⟩
            have kG19 : pj_kpt kc_260 G0 G19 := pj_kpt_t kG1 (pj_kpt_s jG19 rfl)
            show pj_X _ _ G19 66 [(0, .ref 171), (1, .int b), (2, .int p), (3, .int n), (4, .int c)] [] _
            refine pj_X_of (fun r h => pj_R_to (G19, 69, [(0, .ref 171), (1, .int b), (2, .int p), (3, .int n), (4, .int c)], [.int c, .ref 171], 0, 0) 69 3 (fun _ => rfl) h) ?_
            refine pj_X_ca (vs := [.ref 171, .int c]) rfl (fun _ => rfl) ⟨Nat.le_of_ble_eq_true rfl, Nat.le_of_ble_eq_true rfl, pj_T_rcv iG19 rfl⟩ ⟨rfl, rfl⟩ (pj_Y_up (by decide) (ct_259 G19 iG19 c ⟨by omega, by omega⟩ eG19)) ?_
            rintro _ G21 ⟨rfl, iG21, jG21⟩
            have kG21 : pj_kpt kc_260 G0 G21 := pj_kpt_t kG19 (pj_kpt_s jG21 rfl)
            show pj_X _ _ G21 72 [(0, .ref 171), (1, .int b), (2, .int p), (3, .int n), (4, .int c)] [] _
            refine pj_X_of (fun r h => pj_R_to (G21, 73, [(0, .ref 171), (1, .int b), (2, .int p), (3, .int n), (4, .int c)], [.int (Int32.ofInt 0)], 0, 0) 73 2 (fun _ => rfl) h) ?_
            exact pj_X_rt rfl rfl ⟨_, rfl, iG21, kG21, pj_i32 _⟩
          | false =>
            have ub17 := pj_u0_neF b17
            refine pj_X_of (fun r h => pj_R_ifF rfl b17 h) ?_
            refine pj_X_of (fun r h => pj_R_to (G1, 58, [(0, .ref 171), (1, .int b), (2, .int p), (3, .int n), (4, .int c)], [.int ((Int8.ofInt (-2)).toInt32)], 0, 0) 58 2 (fun _ => rfl) h) ?_
            exact pj_X_rt rfl rfl ⟨_, rfl, iG1, kG1, pj_i32 _⟩
        | false =>
          have ub15 := pj_u0_neF b15
          refine pj_X_of (fun r h => pj_R_ifF rfl b15 h) ?_
          refine pj_X_of (fun r h => pj_R_to (G1, 47, [(0, .ref 171), (1, .int b), (2, .int p), (3, .int n), (4, .int c)], [.int (Int32.ofInt (-1))], 0, 0) 47 2 (fun _ => rfl) h) ?_
          exact pj_X_rt rfl rfl ⟨_, rfl, iG1, kG1, pj_i32 _⟩
def kc_261 : pj_KT := ([(171, 0), (171, 1), (171, 47)], [171, 172, 194, 195], [])
theorem lp_ct_261 (G0 : pj_G) (hI0 : pj_Inv G0) (b : Int32) (p : Int32) (n : Int32) : ∀ mn : Nat, (∀ (G : pj_G) (hI : pj_Inv G) (hK : pj_kpt kc_261 G0 G) (v4 : Int32) (v5 : Int32) (mm : Int), ((0 : Int) ≤ v4.toInt ∧ v4.toInt ≤ 9) → ((-1 : Int) ≤ v5.toInt ∧ v5.toInt ≤ 9) → ((0 ≤ v5.toInt → mm = 2000 - 16 * (pj_ai G 175 v5.toInt.toNat).toInt - v5.toInt ∧ 1 ≤ mm) ∧ 0 ≤ mm) → (pj_shz G) → mm < (mn : Int) → pj_X 134 pj_m261 G 77 [(0, .ref 171), (1, .int b), (2, .int p), (3, .int n), (4, .int v4), (5, .int v5)] [] (fun v G' => ∃ y : Int32, v = some (.int y) ∧ pj_Inv G' ∧ pj_kpt kc_261 G0 G' ∧ ((-2147483648 : Int) ≤ y.toInt ∧ y.toInt ≤ 2147483647))) := by
  have c0_ : ((Int8.ofInt (-2)).toInt32).toInt = -2 := by decide
  have c1_ : (Int32.ofInt (-1)).toInt = -1 := by decide
  have c2_ : (Int32.ofInt 0).toInt = 0 := by decide
  have c3_ : (Int32.ofInt 4).toInt = 4 := by decide
  intro mn
  induction mn with
  | zero =>
    intro G hI hK v4 v5 mm rv4 rv5 x0_ x1_ hm
    exfalso
    omega
  | succ mn ih =>
    intro G hI hK v4 v5 mm rv4 rv5 x0_ x1_ hm
    refine pj_X_of (fun r h => pj_R_to (G, 79, [(0, .ref 171), (1, .int b), (2, .int p), (3, .int n), (4, .int v4), (5, .int v5)], [.int v5], 0, 0) 79 2 (fun _ => rfl) h) ?_
    cases b1 : pj_c1 .lt v5 0 with
    | true =>
      have ub1 := pj_u0_ltT b1
      refine pj_X_of (fun r h => pj_R_ifT 120 rfl rfl b1 h) ?_
      refine pj_X_of (fun r h => pj_R_to (G, 123, [(0, .ref 171), (1, .int b), (2, .int p), (3, .int n), (4, .int v4), (5, .int v5)], [.int v4, .ref 171], 0, 0) 123 3 (fun _ => rfl) h) ?_
      refine pj_X_ca (vs := [.ref 171, .int v4]) rfl (fun _ => rfl) ⟨Nat.le_of_ble_eq_true rfl, Nat.le_of_ble_eq_true rfl, pj_T_rcv hI rfl⟩ ⟨rfl, rfl⟩ (pj_Y_up (by decide) (ct_259 G hI v4 ⟨by omega, by omega⟩ x1_)) ?_
      rintro _ G3 ⟨rfl, iG3, jG3⟩
      have kG3 : pj_kpt kc_261 G0 G3 := pj_kpt_t hK (pj_kpt_s jG3 rfl)
      show pj_X _ _ G3 126 [(0, .ref 171), (1, .int b), (2, .int p), (3, .int n), (4, .int v4), (5, .int v5)] [] _
      refine pj_X_of (fun r h => pj_R_to (G3, 128, [(0, .ref 171), (1, .int b), (2, .int p), (3, .int n), (4, .int v4), (5, .int v5)], [.int v4], 0, 0) 128 2 (fun _ => rfl) h) ?_
      exact pj_X_rt rfl rfl ⟨_, rfl, iG3, kG3, pj_i32 _⟩
    | false =>
      have ub1 := pj_u0_ltF b1
      refine pj_X_of (fun r h => pj_R_ifF rfl b1 h) ?_
      refine pj_X_of (fun r h => pj_R_to (G, 83, [(0, .ref 171), (1, .int b), (2, .int p), (3, .int n), (4, .int v4), (5, .int v5)], [.ref 171], 0, 0) 83 2 (fun _ => rfl) h) ?_
      refine pj_X_of (fun r h => pj_T_gr hI rfl rfl rfl h) ?_
      refine pj_X_of (fun r h => pj_R_to (G, 88, [(0, .ref 171), (1, .int b), (2, .int p), (3, .int n), (4, .int v4), (5, .int v5)], [.int v5, .ref 194], 0, 0) 88 2 (fun _ => rfl) h) ?_
      refine pj_X_ll hI rfl rfl (by omega) (by omega) (fun w4 => ?_)
      show pj_X _ _ G 89 [(0, .ref 171), (1, .int b), (2, .int p), (3, .int n), (4, .int v4), (5, .int v5)] [.long w4] _
      refine pj_X_of (fun r h => pj_R_to (G, 90, [(0, .ref 171), (1, .int b), (2, .int p), (3, .int n), (4, .int v4), (5, .int v5)], [.ref 171, .long w4], 0, 0) 90 2 (fun _ => rfl) h) ?_
      refine pj_X_of (fun r h => pj_T_gr hI rfl rfl rfl h) ?_
      refine pj_X_of (fun r h => pj_R_to (G, 95, [(0, .ref 171), (1, .int b), (2, .int p), (3, .int n), (4, .int v4), (5, .int v5)], [.int v4, .ref 194, .long w4], 0, 0) 95 2 (fun _ => rfl) h) ?_
      refine pj_X_ll hI rfl rfl (by omega) (by omega) (fun w5 => ?_)
      show pj_X _ _ G 96 [(0, .ref 171), (1, .int b), (2, .int p), (3, .int n), (4, .int v4), (5, .int v5)] [.long w5, .long w4] _
      refine pj_X_of (fun r h => pj_R_to (G, 97, [(0, .ref 171), (1, .int b), (2, .int p), (3, .int n), (4, .int v4), (5, .int v5)], [.int (lg_cmp w4 w5)], 0, 0) 97 2 (fun _ => rfl) h) ?_
      obtain ⟨z6, hz6⟩ : ∃ z : Int32, z = lg_cmp w4 w5 := ⟨_, rfl⟩
      refine pj_X_eqi hz6.symm ?_
      have fz6_0 : (-1 ≤ z6.toInt ∧ z6.toInt ≤ 1) ∧ (z6.toInt < 0 ↔ w4.toInt < w5.toInt) ∧ (0 < z6.toInt ↔ w5.toInt < w4.toInt) := by rw [hz6]; exact pj_lcI
      cases b7 : pj_c1 .le z6 0 with
      | true =>
        have ub7 := pj_u0_leT b7
        refine pj_X_of (fun r h => pj_R_ifT 105 rfl rfl b7 h) ?_
        refine pj_X_of (fun r h => pj_R_to (G, 112, [(4, .int v4), (0, .ref 171), (1, .int b), (2, .int p), (3, .int n), (5, .int v5)], [.int v5, .ref 171], 0, 0) 112 5 (fun _ => rfl) h) ?_
        refine pj_X_ca (vs := [.ref 171, .int v5]) rfl (fun _ => rfl) ⟨Nat.le_of_ble_eq_true rfl, Nat.le_of_ble_eq_true rfl, pj_T_rcv hI rfl⟩ ⟨rfl, rfl⟩ (pj_Y_up (by decide) (ct_256 G hI v5 ⟨by omega, by omega⟩)) ?_
        rintro _ _ ⟨y8, rfl, rfl, ry8, ey8⟩
        show pj_X _ _ G 115 [(4, .int v4), (0, .ref 171), (1, .int b), (2, .int p), (3, .int n), (5, .int v5)] [.int y8] _
        refine pj_X_of (fun r h => pj_R_to (G, 77, [(5, .int y8), (4, .int v4), (0, .ref 171), (1, .int b), (2, .int p), (3, .int n)], [], 0, 0) 77 3 (fun _ => rfl) h) ?_
        by_cases hgm : y8.toInt < 0
        · exact pj_X_sub [(0, .ref 171), (1, .int b), (2, .int p), (3, .int n), (4, .int v4), (5, .int y8)] (show List.Nodup [0, 1, 2, 3, 4, 5] by decide) ⟨rfl, rfl, rfl, rfl, rfl, rfl, trivial⟩ (ih G hI hK v4 y8 0 ⟨by omega, by omega⟩ ⟨by omega, by omega⟩ (by omega) x1_ (by omega))
        · have hsp := hI.2.2.1 175 (10, 0, 99, 0, 0) rfl y8.toInt.toNat (by show _ < 10; omega)
          have hsp1 : 0 ≤ (pj_ai G 175 y8.toInt.toNat).toInt := hsp.1
          have hsp2 : (pj_ai G 175 y8.toInt.toNat).toInt ≤ 99 := hsp.2.1
          exact pj_X_sub [(0, .ref 171), (1, .int b), (2, .int p), (3, .int n), (4, .int v4), (5, .int y8)] (show List.Nodup [0, 1, 2, 3, 4, 5] by decide) ⟨rfl, rfl, rfl, rfl, rfl, rfl, trivial⟩ (ih G hI hK v4 y8 (2000 - 16 * (pj_ai G 175 y8.toInt.toNat).toInt - y8.toInt) ⟨by omega, by omega⟩ ⟨by omega, by omega⟩ (by omega) x1_ (by omega))
      | false =>
        have ub7 := pj_u0_leF b7
        refine pj_X_of (fun r h => pj_R_ifF rfl b7 h) ?_
        refine pj_X_of (fun r h => pj_R_to (G, 112, [(4, .int v5), (0, .ref 171), (1, .int b), (2, .int p), (3, .int n), (5, .int v5)], [.int v5, .ref 171], 0, 0) 112 6 (fun _ => rfl) h) ?_
        refine pj_X_ca (vs := [.ref 171, .int v5]) rfl (fun _ => rfl) ⟨Nat.le_of_ble_eq_true rfl, Nat.le_of_ble_eq_true rfl, pj_T_rcv hI rfl⟩ ⟨rfl, rfl⟩ (pj_Y_up (by decide) (ct_256 G hI v5 ⟨by omega, by omega⟩)) ?_
        rintro _ _ ⟨y9, rfl, rfl, ry9, ey9⟩
        show pj_X _ _ G 115 [(4, .int v5), (0, .ref 171), (1, .int b), (2, .int p), (3, .int n), (5, .int v5)] [.int y9] _
        refine pj_X_of (fun r h => pj_R_to (G, 77, [(5, .int y9), (4, .int v5), (0, .ref 171), (1, .int b), (2, .int p), (3, .int n)], [], 0, 0) 77 3 (fun _ => rfl) h) ?_
        by_cases hgm : y9.toInt < 0
        · exact pj_X_sub [(0, .ref 171), (1, .int b), (2, .int p), (3, .int n), (4, .int v5), (5, .int y9)] (show List.Nodup [0, 1, 2, 3, 4, 5] by decide) ⟨rfl, rfl, rfl, rfl, rfl, rfl, trivial⟩ (ih G hI hK v5 y9 0 ⟨by omega, by omega⟩ ⟨by omega, by omega⟩ (by omega) x1_ (by omega))
        · have hsp := hI.2.2.1 175 (10, 0, 99, 0, 0) rfl y9.toInt.toNat (by show _ < 10; omega)
          have hsp1 : 0 ≤ (pj_ai G 175 y9.toInt.toNat).toInt := hsp.1
          have hsp2 : (pj_ai G 175 y9.toInt.toNat).toInt ≤ 99 := hsp.2.1
          exact pj_X_sub [(0, .ref 171), (1, .int b), (2, .int p), (3, .int n), (4, .int v5), (5, .int y9)] (show List.Nodup [0, 1, 2, 3, 4, 5] by decide) ⟨rfl, rfl, rfl, rfl, rfl, rfl, trivial⟩ (ih G hI hK v5 y9 (2000 - 16 * (pj_ai G 175 y9.toInt.toNat).toInt - y9.toInt) ⟨by omega, by omega⟩ ⟨by omega, by omega⟩ (by omega) x1_ (by omega))
theorem ct_261 (G0 : pj_G) (hI : pj_Inv G0) (b : Int32) (p : Int32) (n : Int32) : pj_Y 135 261 [.ref 171, .int b, .int p, .int n] G0 (fun v G' => ∃ y : Int32, v = some (.int y) ∧ pj_Inv G' ∧ pj_kpt kc_261 G0 G' ∧ ((-2147483648 : Int) ≤ y.toInt ∧ y.toInt ≤ 2147483647)) := by
  have c0_ : ((Int8.ofInt (-2)).toInt32).toInt = -2 := by decide
  have c1_ : (Int32.ofInt (-1)).toInt = -1 := by decide
  have c2_ : (Int32.ofInt 0).toInt = 0 := by decide
  have c3_ : (Int32.ofInt 4).toInt = 4 := by decide
  refine pj_Y_X (M := pj_m261) rfl rfl (Nat.le_of_ble_eq_true rfl) ?_
  have hK : pj_kpt kc_261 G0 G0 := pj_kpt_r _ _
  show pj_X _ _ G0 0 [(0, .ref 171), (1, .int b), (2, .int p), (3, .int n)] [] _
  refine pj_X_of (fun r h => pj_R_to (G0, 2, [(0, .ref 171), (1, .int b), (2, .int p), (3, .int n)], [.int (Int32.ofInt 0), .ref 171], 0, 0) 2 3 (fun _ => rfl) h) ?_
  refine pj_X_of (fun r h => pj_T_pf hI rfl rfl rfl h) ?_
  show pj_X _ _ (pj_wv G0 171 0 (.int (Int32.ofInt 0))) 5 [(0, .ref 171), (1, .int b), (2, .int p), (3, .int n)] [] _
  obtain ⟨G10, hG10⟩ : ∃ H, H = pj_wv G0 171 0 (.int (Int32.ofInt 0)) := ⟨_, rfl⟩
  have iG10 : pj_Inv G10 := by rw [hG10]; exact pj_Inv_wi hI (ci := 12) rfl (fun q hq => by cases hq)
  have kG10 : pj_kpt kc_261 G0 G10 := by rw [hG10]; exact pj_kpt_v hK rfl
  rw [← hG10]
  refine pj_X_of (fun r h => pj_R_to (G10, 7, [(0, .ref 171), (1, .int b), (2, .int p), (3, .int n)], [.int b, .ref 171], 0, 0) 7 3 (fun _ => rfl) h) ?_
  refine pj_X_ca (vs := [.ref 171, .int b]) rfl (fun _ => rfl) ⟨Nat.le_of_ble_eq_true rfl, Nat.le_of_ble_eq_true rfl, pj_T_rcv iG10 rfl⟩ ⟨rfl, rfl⟩ (pj_Y_up (by decide) (ct_177x G10 iG10 b)) ?_
  rintro _ _ ⟨y11, rfl, rfl, ry11, ey11, fy11⟩
  replace ey11 := ey11 _ rfl
  show pj_X _ _ G10 10 [(0, .ref 171), (1, .int b), (2, .int p), (3, .int n)] [.int y11] _
  cases b12 : pj_c1 .eq y11 0 with
  | true =>
    have ub12 := pj_u0_eqT b12
    refine pj_X_of (fun r h => pj_R_ifT 37 rfl rfl b12 h) ?_
    refine pj_X_of (fun r h => pj_R_to (G10, 38, [(0, .ref 171), (1, .int b), (2, .int p), (3, .int n)], [.int (Int32.ofInt (-1))], 0, 0) 38 2 (fun _ => rfl) h) ?_
    exact pj_X_rt rfl rfl ⟨_, rfl, iG10, kG10, pj_i32 _⟩
  | false =>
    have ub12 := pj_u0_eqF b12
    refine pj_X_of (fun r h => pj_R_ifF rfl b12 h) ?_
    refine pj_X_of (fun r h => pj_R_to (G10, 19, [(0, .ref 171), (1, .int b), (2, .int p), (3, .int n)], [.long (Int64.ofInt 10), .long (Int64.ofNat 0), .long p.toInt64], 0, 0) 19 5 (fun _ => rfl) h) ?_
    have lc13 : (p.toInt64).toInt = p.toInt := Int32.toInt_toInt64 _
    have lc14 : (Int64.ofNat 0).toInt = 0 := by decide
    have lc15 : (Int64.ofInt 10).toInt = 10 := by decide
    refine pj_X_ca (vs := [.long p.toInt64, .long (Int64.ofNat 0), .long (Int64.ofInt 10)]) rfl (fun _ => rfl) ⟨Nat.le_of_ble_eq_true rfl, Nat.le_of_ble_eq_true rfl, rfl⟩ ⟨rfl, rfl⟩ (pj_Y_up (by decide) (ct_170x G10 iG10 p.toInt64 (Int64.ofNat 0) (Int64.ofInt 10))) ?_
    rintro _ _ ⟨y16, rfl, rfl, ry16, ey16, fy16⟩
    show pj_X _ _ G10 22 [(0, .ref 171), (1, .int b), (2, .int p), (3, .int n)] [.int y16] _
    cases b17 : pj_c1 .eq y16 0 with
    | true =>
      have ub17 := pj_u0_eqT b17
      refine pj_X_of (fun r h => pj_R_ifT 37 rfl rfl b17 h) ?_
      refine pj_X_of (fun r h => pj_R_to (G10, 38, [(0, .ref 171), (1, .int b), (2, .int p), (3, .int n)], [.int (Int32.ofInt (-1))], 0, 0) 38 2 (fun _ => rfl) h) ?_
      exact pj_X_rt rfl rfl ⟨_, rfl, iG10, kG10, pj_i32 _⟩
    | false =>
      have ub17 := pj_u0_eqF b17
      refine pj_X_of (fun r h => pj_R_ifF rfl b17 h) ?_
      refine pj_X_of (fun r h => pj_R_to (G10, 31, [(0, .ref 171), (1, .int b), (2, .int p), (3, .int n)], [.long (Int64.ofInt 12), .long (Int64.ofNat 0), .long n.toInt64], 0, 0) 31 5 (fun _ => rfl) h) ?_
      have lc18 : (n.toInt64).toInt = n.toInt := Int32.toInt_toInt64 _
      have lc19 : (Int64.ofNat 0).toInt = 0 := by decide
      have lc20 : (Int64.ofInt 12).toInt = 12 := by decide
      refine pj_X_ca (vs := [.long n.toInt64, .long (Int64.ofNat 0), .long (Int64.ofInt 12)]) rfl (fun _ => rfl) ⟨Nat.le_of_ble_eq_true rfl, Nat.le_of_ble_eq_true rfl, rfl⟩ ⟨rfl, rfl⟩ (pj_Y_up (by decide) (ct_170x G10 iG10 n.toInt64 (Int64.ofNat 0) (Int64.ofInt 12))) ?_
      rintro _ _ ⟨y21, rfl, rfl, ry21, ey21, fy21⟩
      show pj_X _ _ G10 34 [(0, .ref 171), (1, .int b), (2, .int p), (3, .int n)] [.int y21] _
      cases b22 : pj_c1 .ne y21 0 with
      | true =>
        have ub22 := pj_u0_neT b22
        refine pj_X_of (fun r h => pj_R_ifT 39 rfl rfl b22 h) ?_
        refine pj_X_of (fun r h => pj_R_to (G10, 41, [(0, .ref 171), (1, .int b), (2, .int p), (3, .int n)], [.int b, .ref 171], 0, 0) 41 3 (fun _ => rfl) h) ?_
        refine pj_X_ca (vs := [.ref 171, .int b]) rfl (fun _ => rfl) ⟨Nat.le_of_ble_eq_true rfl, Nat.le_of_ble_eq_true rfl, pj_T_rcv iG10 rfl⟩ ⟨rfl, rfl⟩ (pj_Y_up (by decide) (ct_257 G10 iG10 b ⟨by omega, by omega⟩)) ?_
        rintro _ _ ⟨y23, rfl, rfl, ry23, ey23⟩
        show pj_X _ _ G10 44 [(0, .ref 171), (1, .int b), (2, .int p), (3, .int n)] [.int y23] _
        cases b24 : pj_c1 .ne y23 0 with
        | true =>
          have ub24 := pj_u0_neT b24
          refine pj_X_of (fun r h => pj_R_ifT 50 rfl rfl b24 h) ?_
          refine pj_X_of (fun r h => pj_R_to (G10, 54, [(0, .ref 171), (1, .int b), (2, .int p), (3, .int n)], [.int n, .int p, .int b, .ref 171], 0, 0) 54 5 (fun _ => rfl) h) ?_
          refine pj_X_ca (vs := [.ref 171, .int b, .int p, .int n]) rfl (fun _ => rfl) ⟨Nat.le_of_ble_eq_true rfl, Nat.le_of_ble_eq_true rfl, pj_T_rcv iG10 rfl⟩ ⟨rfl, rfl⟩ (pj_Y_up (by decide) (ct_258 G10 iG10 b p n ⟨by omega, by omega⟩ ⟨by omega, by omega⟩ ⟨by omega, by omega⟩)) ?_
          rintro _ G26 ⟨rfl, iG26, jG26, eG26⟩
          have kG26 : pj_kpt kc_261 G0 G26 := pj_kpt_t kG10 (pj_kpt_s jG26 rfl)
          show pj_X _ _ G26 57 [(0, .ref 171), (1, .int b), (2, .int p), (3, .int n)] [] _
          refine pj_X_of (fun r h => pj_R_to (G26, 58, [(0, .ref 171), (1, .int b), (2, .int p), (3, .int n)], [.ref 171], 0, 0) 58 2 (fun _ => rfl) h) ?_
          refine pj_X_of (fun r h => pj_T_gr iG26 rfl rfl rfl h) ?_
          refine pj_X_of (fun r h => pj_R_to (G26, 64, [(0, .ref 171), (1, .int b), (2, .int p), (3, .int n)], [.int ((Int32.ofInt 4) * b), .ref 179], 0, 0) 64 4 (fun _ => rfl) h) ?_
          obtain ⟨z27, hz27⟩ : ∃ z : Int32, z = (Int32.ofInt 4) * b := ⟨_, rfl⟩
          refine pj_X_eqi hz27.symm ?_
          have fz27_0 : z27.toInt = 4 * b.toInt := by rw [hz27]; exact pj_mulL (by decide) (by omega) (by omega)
          refine pj_X_of (fun r h => pj_R_to (G26, 66, [(0, .ref 171), (1, .int b), (2, .int p), (3, .int n)], [.int (z27 + (Int32.ofInt 0)), .ref 179], 0, 0) 66 3 (fun _ => rfl) h) ?_
          obtain ⟨z28, hz28⟩ : ∃ z : Int32, z = z27 + (Int32.ofInt 0) := ⟨_, rfl⟩
          refine pj_X_eqi hz28.symm ?_
          have fz28_0 : z28.toInt = z27.toInt + (Int32.ofInt 0).toInt := by rw [hz28]; exact pj_addI (by have := pj_i32 z27; have := pj_i32 (Int32.ofInt 0); omega) (by have := pj_i32 z27; have := pj_i32 (Int32.ofInt 0); omega)
          refine pj_X_of (fun r h => pj_T_il iG26 rfl rfl (by omega) (by omega) h) ?_
          show pj_X _ _ G26 67 [(0, .ref 171), (1, .int b), (2, .int p), (3, .int n)] [.int (pj_ai G26 179 z28.toInt.toNat)] _
          obtain ⟨z29, hz29⟩ : ∃ z : Int32, z = pj_ai G26 179 z28.toInt.toNat := ⟨_, rfl⟩
          refine pj_X_eqi hz29.symm ?_
          have ez29 : (pj_ai G26 179 z28.toInt.toNat).toInt = z29.toInt := by rw [hz29]
          have fz29_0 : -1 ≤ z29.toInt ∧ z29.toInt ≤ 9 := by rw [hz29]; exact ((iG26.2.2.2 179 32 rfl _ (by show _ < 32; omega)).1 (by omega)).1 (by omega)
          have hb0 : 0 ≤ z29.toInt := by rw [hz29, show z28.toInt.toNat = 4 * b.toInt.toNat by omega, jG26.2.2 179 (by decide)]; exact ey23 (by omega)
          refine pj_X_of (fun r h => pj_R_to (G26, 72, [(4, .int z29), (0, .ref 171), (1, .int b), (2, .int p), (3, .int n)], [.int z29, .ref 171], 0, 0) 72 4 (fun _ => rfl) h) ?_
          refine pj_X_ca (vs := [.ref 171, .int z29]) rfl (fun _ => rfl) ⟨Nat.le_of_ble_eq_true rfl, Nat.le_of_ble_eq_true rfl, pj_T_rcv iG26 rfl⟩ ⟨rfl, rfl⟩ (pj_Y_up (by decide) (ct_256 G26 iG26 z29 ⟨by omega, by omega⟩)) ?_
          rintro _ _ ⟨y30, rfl, rfl, ry30, ey30⟩
          show pj_X _ _ G26 75 [(4, .int z29), (0, .ref 171), (1, .int b), (2, .int p), (3, .int n)] [.int y30] _
          refine pj_X_of (fun r h => pj_R_to (G26, 77, [(5, .int y30), (4, .int z29), (0, .ref 171), (1, .int b), (2, .int p), (3, .int n)], [], 0, 0) 77 2 (fun _ => rfl) h) ?_
          by_cases hgm : y30.toInt < 0
          · exact pj_X_sub [(0, .ref 171), (1, .int b), (2, .int p), (3, .int n), (4, .int z29), (5, .int y30)] (show List.Nodup [0, 1, 2, 3, 4, 5] by decide) ⟨rfl, rfl, rfl, rfl, rfl, rfl, trivial⟩ ((lp_ct_261 G0 hI b p n  2002) G26 iG26 kG26 z29 y30 0 ⟨by omega, by omega⟩ ⟨by omega, by omega⟩ (by omega) eG26 (by omega))
          · have hsp := iG26.2.2.1 175 (10, 0, 99, 0, 0) rfl y30.toInt.toNat (by show _ < 10; omega)
            have hsp1 : 0 ≤ (pj_ai G26 175 y30.toInt.toNat).toInt := hsp.1
            have hsp2 : (pj_ai G26 175 y30.toInt.toNat).toInt ≤ 99 := hsp.2.1
            exact pj_X_sub [(0, .ref 171), (1, .int b), (2, .int p), (3, .int n), (4, .int z29), (5, .int y30)] (show List.Nodup [0, 1, 2, 3, 4, 5] by decide) ⟨rfl, rfl, rfl, rfl, rfl, rfl, trivial⟩ ((lp_ct_261 G0 hI b p n  2002) G26 iG26 kG26 z29 y30 (2000 - 16 * (pj_ai G26 175 y30.toInt.toNat).toInt - y30.toInt) ⟨by omega, by omega⟩ ⟨by omega, by omega⟩ (by omega) eG26 (by omega))
        | false =>
          have ub24 := pj_u0_neF b24
          refine pj_X_of (fun r h => pj_R_ifF rfl b24 h) ?_
          refine pj_X_of (fun r h => pj_R_to (G10, 49, [(0, .ref 171), (1, .int b), (2, .int p), (3, .int n)], [.int ((Int8.ofInt (-2)).toInt32)], 0, 0) 49 2 (fun _ => rfl) h) ?_
          exact pj_X_rt rfl rfl ⟨_, rfl, iG10, kG10, pj_i32 _⟩
      | false =>
        have ub22 := pj_u0_neF b22
        refine pj_X_of (fun r h => pj_R_ifF rfl b22 h) ?_
        refine pj_X_of (fun r h => pj_R_to (G10, 38, [(0, .ref 171), (1, .int b), (2, .int p), (3, .int n)], [.int (Int32.ofInt (-1))], 0, 0) 38 2 (fun _ => rfl) h) ?_
        exact pj_X_rt rfl rfl ⟨_, rfl, iG10, kG10, pj_i32 _⟩
