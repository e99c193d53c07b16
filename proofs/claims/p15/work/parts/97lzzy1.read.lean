/-! SMALL READERS ON BOTH SIDES -/
theorem mr_95 {C : pj_G} (b : Int32) : ((0 ≤ b.toInt ∧ b.toInt < (pj_fi C 21 0).toInt) → (F_95x C b).toInt = 1) ∧ (¬ (0 ≤ b.toInt ∧ b.toInt < (pj_fi C 21 0).toInt) → (F_95x C b).toInt = 0) := by
  have k0 : (Int32.ofInt 0).toInt = 0 := by decide
  have k1 : (Int32.ofInt 1).toInt = 1 := by decide
  rw [F_95x_e]
  simp only [pj_nm_x]
  by_cases q : b.toInt < 0
  · rw [pj_b0_ltT q, pj_cT]
    exact ⟨fun h => by omega, fun _ => k0⟩
  · rw [pj_b0_ltF (show 0 ≤ b.toInt by omega), pj_cF]
    by_cases q2 : (pj_fi C 21 0).toInt ≤ b.toInt
    · rw [pj_b_geT q2, pj_cT]
      exact ⟨fun h => by omega, fun _ => k0⟩
    · rw [pj_b_geF (show b.toInt < (pj_fi C 21 0).toInt by omega), pj_cF]
      exact ⟨fun _ => k1, fun h => by omega⟩
theorem mr_96 {C : pj_G} (b : Int32) : ((0 ≤ b.toInt ∧ b.toInt < (pj_fi C 21 5).toInt) → (F_96x C b).toInt = 1) ∧ (¬ (0 ≤ b.toInt ∧ b.toInt < (pj_fi C 21 5).toInt) → (F_96x C b).toInt = 0) := by
  have k0 : (Int32.ofInt 0).toInt = 0 := by decide
  have k1 : (Int32.ofInt 1).toInt = 1 := by decide
  rw [F_96x_e]
  simp only [pj_nm_x]
  by_cases q : b.toInt < 0
  · rw [pj_b0_ltT q, pj_cT]
    exact ⟨fun h => by omega, fun _ => k0⟩
  · rw [pj_b0_ltF (show 0 ≤ b.toInt by omega), pj_cF]
    by_cases q2 : (pj_fi C 21 5).toInt ≤ b.toInt
    · rw [pj_b_geT q2, pj_cT]
      exact ⟨fun h => by omega, fun _ => k0⟩
    · rw [pj_b_geF (show b.toInt < (pj_fi C 21 5).toInt by omega), pj_cF]
      exact ⟨fun _ => k1, fun h => by omega⟩
theorem mr_94 {C R : pj_G} (hV : mr_V C R) (b : Int32) : ((0 ≤ b.toInt ∧ b.toInt < (pj_fi R 171 4).toInt) → (F_94x C b).toInt = 1) ∧ (¬ (0 ≤ b.toInt ∧ b.toInt < (pj_fi R 171 4).toInt) → (F_94x C b).toInt = 0) := by
  have k0 : (Int32.ofInt 0).toInt = 0 := by decide
  have k1 : (Int32.ofInt 1).toInt = 1 := by decide
  have main : ∀ n : Int32, n = pj_fi R 171 4 → ((0 ≤ b.toInt ∧ b.toInt < (pj_fi R 171 4).toInt) → (cond (pj_c1 .ge b n) (Int32.ofInt 0) (Int32.ofInt 1)).toInt = 1) ∧ (¬ (b.toInt < (pj_fi R 171 4).toInt) → (cond (pj_c1 .ge b n) (Int32.ofInt 0) (Int32.ofInt 1)).toInt = 0) := by
    intro n e
    subst e
    by_cases q2 : (pj_fi R 171 4).toInt ≤ b.toInt
    · rw [pj_b_geT q2, pj_cT]
      exact ⟨fun h => by omega, fun _ => k0⟩
    · rw [pj_b_geF (show b.toInt < (pj_fi R 171 4).toInt by omega), pj_cF]
      exact ⟨fun _ => k1, fun h => by omega⟩
  rw [F_94x_e]
  simp only [pj_nm_x]
  by_cases q : b.toInt < 0
  · rw [pj_b0_ltT q, pj_cT]
    exact ⟨fun h => by omega, fun _ => k0⟩
  · rw [pj_b0_ltF (show 0 ≤ b.toInt by omega), pj_cF]
    rcases hV with v | v
    · rw [pj_rb_t v.1, pj_cT]
      obtain ⟨m1, m2⟩ := main _ v.2.2.2.1
      exact ⟨m1, fun h => m2 (fun z => h ⟨by omega, z⟩)⟩
    · rw [pj_rb_f v.1 rfl, pj_cF]
      obtain ⟨m1, m2⟩ := main _ v.2.2.2.1
      exact ⟨m1, fun h => m2 (fun z => h ⟨by omega, z⟩)⟩
/-- one of many, in the reference -/
theorem mr_many {R : pj_G} (b n : Int32) (hn : -2147483647 ≤ n.toInt) : ((0 ≤ b.toInt ∧ b.toInt < n.toInt) → (F_171x R b.toInt64 (Int64.ofNat 0) (n - Int32.ofInt 1).toInt64).toInt = 1) ∧ (¬ (0 ≤ b.toInt ∧ b.toInt < n.toInt) → (F_171x R b.toInt64 (Int64.ofNat 0) (n - Int32.ofInt 1).toInt64).toInt = 0) := by
  have k1 : (Int32.ofInt 1).toInt = 1 := by decide
  have l0 : (Int64.ofNat 0).toInt = 0 := by decide
  have r := (pj_i32 n).2
  have s : (n - Int32.ofInt 1).toInt = n.toInt - 1 := by rw [pj_subI (by omega) (by omega), k1]
  have lk : (b.toInt64).toInt = b.toInt := Int32.toInt_toInt64 _
  have ln : ((n - Int32.ofInt 1).toInt64).toInt = n.toInt - 1 := (Int32.toInt_toInt64 _).trans s
  obtain ⟨p1, p2⟩ := mr_171 R b.toInt64 (Int64.ofNat 0) (n - Int32.ofInt 1).toInt64
  exact ⟨fun h => p1 (by omega), fun h => p2 (by omega)⟩
theorem mr_178 {R : pj_G} (iR : pj_Inv R) (b : Int32) : ((0 ≤ b.toInt ∧ b.toInt < (pj_fi R 171 5).toInt) → (F_178x R b).toInt = 1) ∧ (¬ (0 ≤ b.toInt ∧ b.toInt < (pj_fi R 171 5).toInt) → (F_178x R b).toInt = 0) := by
  have r : (0 : Int) ≤ (pj_fi R 171 5).toInt ∧ (pj_fi R 171 5).toInt ≤ 6 := iR.2.1 171 5 (0, 6) rfl
  rw [F_178x_e]
  simp only [pj_nm_x]
  exact mr_many b (pj_fi R 171 5) (by omega)
theorem mr_179 {R : pj_G} (iR : pj_Inv R) (b : Int32) : ((0 ≤ b.toInt ∧ b.toInt < (pj_fi R 171 6).toInt) → (F_179x R b).toInt = 1) ∧ (¬ (0 ≤ b.toInt ∧ b.toInt < (pj_fi R 171 6).toInt) → (F_179x R b).toInt = 0) := by
  have r : (0 : Int) ≤ (pj_fi R 171 6).toInt ∧ (pj_fi R 171 6).toInt ≤ 6 := iR.2.1 171 6 (0, 6) rfl
  rw [F_179x_e]
  simp only [pj_nm_x]
  exact mr_many b (pj_fi R 171 6) (by omega)
theorem mr_177 {R : pj_G} (iR : pj_Inv R) (b : Int32) : ((0 ≤ b.toInt ∧ b.toInt < (pj_fi R 171 4).toInt) → (F_177x R b).toInt = 1) ∧ (¬ (0 ≤ b.toInt ∧ b.toInt < (pj_fi R 171 4).toInt) → (F_177x R b).toInt = 0) := by
  have r : (0 : Int) ≤ (pj_fi R 171 4).toInt ∧ (pj_fi R 171 4).toInt ≤ 10 := iR.2.1 171 4 (0, 10) rfl
  rw [F_177x_e]
  simp only [pj_nm_x]
  exact mr_many b (pj_fi R 171 4) (by omega)
/-- HOURS yet are not below 0 -/
theorem mr_yet {R : pj_G} (iR : pj_Inv R) (b : Nat) (hb : b < 6) : 0 ≤ (pj_ai R 179 (4 * b + 1)).toInt := by
  have z : pj_cl (4 * b + 1) (pj_ai R 179 (4 * b + 1)) := iR.2.2.2 179 32 rfl (4 * b + 1) (by omega)
  exact ((z.1 (by omega)).2 (by omega))
/-- the indices of a bridge's numbers in the reference -/
theorem mr_ix {b : Int32} {n : Nat} (hn : b.toInt = (n : Int)) (h6 : n ≤ 6) : (Int32.ofInt 4 * b + Int32.ofInt 0).toInt.toNat = 4 * n ∧ (Int32.ofInt 4 * b + Int32.ofInt 1).toInt.toNat = 4 * n + 1 ∧ (Int32.ofInt 4 * b + Int32.ofInt 2).toInt.toNat = 4 * n + 2 ∧ (Int32.ofInt 4 * b + Int32.ofInt 3).toInt.toNat = 4 * n + 3 := by
  have k0 : (Int32.ofInt 0).toInt = 0 := by decide
  have k1 : (Int32.ofInt 1).toInt = 1 := by decide
  have k2 : (Int32.ofInt 2).toInt = 2 := by decide
  have k3 : (Int32.ofInt 3).toInt = 3 := by decide
  have k4 : (Int32.ofInt 4).toInt = 4 := by decide
  have t0 : (Int32.ofInt 4 * b).toInt = 4 * b.toInt := pj_mulL k4 (by omega) (by omega)
  have t1 : (Int32.ofInt 4 * b + Int32.ofInt 0).toInt = 4 * b.toInt := by rw [pj_addI (by omega) (by omega), t0, k0]; omega
  have t2 : (Int32.ofInt 4 * b + Int32.ofInt 1).toInt = 4 * b.toInt + 1 := by rw [pj_addI (by omega) (by omega), t0, k1]
  have t3 : (Int32.ofInt 4 * b + Int32.ofInt 2).toInt = 4 * b.toInt + 2 := by rw [pj_addI (by omega) (by omega), t0, k2]
  have t4 : (Int32.ofInt 4 * b + Int32.ofInt 3).toInt = 4 * b.toInt + 3 := by rw [pj_addI (by omega) (by omega), t0, k3]
  exact ⟨by omega, by omega, by omega, by omega⟩
theorem mr_70s (C : pj_G) (c : Int32) (fu : Nat) (b : Int32) : L_70_21x C c (fu + 1) b = cond (pj_c1 .ge b (pj_fi C 21 0)) (Int32.ofInt (-1)) (cond (pj_c1 .ne (pj_ai C 22 b.toInt.toNat) c) (L_70_21x C c fu (b + Int32.ofInt 1)) (cond (pj_c1 .ne (pj_ai C 23 b.toInt.toNat) 0) (L_70_21x C c fu (b + Int32.ofInt 1)) b)) := by
  rw [L_70_21x_s0]
  simp only [pj_nm_x]
theorem mr_71s (C : pj_G) (c : Int32) (fu : Nat) (b : Int32) : L_71_21x C c (fu + 1) b = cond (pj_c1 .ge b (pj_fi C 21 0)) (Int32.ofInt (-1)) (cond (pj_c1 .ne (pj_ai C 22 b.toInt.toNat) c) (L_71_21x C c fu (b + Int32.ofInt 1)) (cond (pj_c1 .le (pj_ai C 23 b.toInt.toNat) 0) (L_71_21x C c fu (b + Int32.ofInt 1)) b)) := by
  rw [L_71_21x_s0]
  simp only [pj_nm_x]
theorem mr_206s (R : pj_G) (c is : Int32) (fu : Nat) (b : Int32) : L_206x R c is (fu + 1) b = cond (pj_c1 .ge b (pj_fi R 171 5)) (Int32.ofInt (-1)) (cond (pj_c1 .ne (pj_ai R 179 (Int32.ofInt 4 * b + Int32.ofInt 0).toInt.toNat) c) (L_206x R c is fu (b + Int32.ofInt 1)) (cond (pj_c1 .ne (pj_ai R 179 (Int32.ofInt 4 * b + Int32.ofInt 1).toInt.toNat) 0) (cond (pj_c1 .ne (Int32.ofInt 0) is) (L_206x R c is fu (b + Int32.ofInt 1)) b) (cond (pj_c1 .ne (Int32.ofInt 1) is) (L_206x R c is fu (b + Int32.ofInt 1)) b))) := by
  rw [L_206x_s0]
  simp only [pj_nm_x]
/-- who lies at a crossing, who comes to it -/
theorem mr_at {C R : pj_G} (iR : pj_Inv R) (hc : (pj_fi C 21 0).toInt = (pj_fi R 171 5).toInt) (h6 : (pj_fi C 21 0).toInt ≤ 6) {np B kc : Int} (hS : mr_row C 21 R 179 0 (pj_fi C 21 0).toInt np B kc) (c : Int32) : ∀ (m fc fr : Nat) (b : Int32), 0 ≤ b.toInt → (pj_fi C 21 0).toInt - b.toInt ≤ m → m < fc → m < fr → L_70_21x C c fc b = L_206x R c (Int32.ofInt 1) fr b ∧ L_71_21x C c fc b = L_206x R c (Int32.ofInt 0) fr b := by
  have k1 : (Int32.ofInt 1).toInt = 1 := by decide
  have n01 : pj_c1 .ne (Int32.ofInt 0) (Int32.ofInt 1) = true := by decide
  have n11 : pj_c1 .ne (Int32.ofInt 1) (Int32.ofInt 1) = false := by decide
  have n00 : pj_c1 .ne (Int32.ofInt 0) (Int32.ofInt 0) = false := by decide
  have n10 : pj_c1 .ne (Int32.ofInt 1) (Int32.ofInt 0) = true := by decide
  intro m
  induction m with
  | zero =>
    intro fc fr b h0 hm hfc hfr
    obtain ⟨g, rfl⟩ : ∃ q, fc = q + 1 := ⟨fc - 1, by omega⟩
    obtain ⟨g2, rfl⟩ : ∃ q, fr = q + 1 := ⟨fr - 1, by omega⟩
    rw [mr_70s, mr_71s, mr_206s, mr_206s, pj_b_geT (show (pj_fi C 21 0).toInt ≤ b.toInt by omega), pj_b_geT (show (pj_fi R 171 5).toInt ≤ b.toInt by omega), pj_cT, pj_cT, pj_cT, pj_cT]
    exact ⟨rfl, rfl⟩
  | succ m ih =>
    intro fc fr b h0 hm hfc hfr
    obtain ⟨g, rfl⟩ : ∃ q, fc = q + 1 := ⟨fc - 1, by omega⟩
    obtain ⟨g2, rfl⟩ : ∃ q, fr = q + 1 := ⟨fr - 1, by omega⟩
    rw [mr_70s, mr_71s, mr_206s, mr_206s]
    by_cases q : (pj_fi C 21 0).toInt ≤ b.toInt
    · rw [pj_b_geT q, pj_b_geT (show (pj_fi R 171 5).toInt ≤ b.toInt by omega), pj_cT, pj_cT, pj_cT, pj_cT]
      exact ⟨rfl, rfl⟩
    · rw [pj_b_geF (show b.toInt < (pj_fi C 21 0).toInt by omega), pj_b_geF (show b.toInt < (pj_fi R 171 5).toInt by omega), pj_cF, pj_cF, pj_cF, pj_cF]
      have s : (b + Int32.ofInt 1).toInt = b.toInt + 1 := by rw [pj_addI (by omega) (by omega), k1]
      obtain ⟨i1, i2⟩ := ih g g2 (b + Int32.ofInt 1) (by omega) (by omega) (by omega) (by omega)
      obtain ⟨n, hn⟩ : ∃ n : Nat, b.toInt = (n : Int) := ⟨b.toInt.toNat, by omega⟩
      obtain ⟨x0, x1, -, -⟩ := mr_ix hn (by omega)
      have nn : b.toInt.toNat = n := by omega
      obtain ⟨r1, r2, -, -⟩ := hS.1 n (by omega)
      have r1' : pj_ai C 22 n = pj_ai R 179 (4 * n) := r1.trans (by rw [Nat.zero_add])
      have r2' : pj_ai C 23 n = pj_ai R 179 (4 * n + 1) := r2.trans (by rw [Nat.zero_add])
      have yt := mr_yet iR n (by omega)
      rw [x0, x1, nn, r1', r2', i1, i2]
      cases pj_c1 .ne (pj_ai R 179 (4 * n)) c with
      | true => exact ⟨by rw [pj_cT, pj_cT], by rw [pj_cT, pj_cT]⟩
      | false =>
        by_cases z : (pj_ai R 179 (4 * n + 1)).toInt = 0
        · exact ⟨by rw [pj_cF, pj_cF, pj_b0_neF z, pj_cF, pj_cF, n11, pj_cF], by rw [pj_cF, pj_cF, pj_b0_leT (show (pj_ai R 179 (4 * n + 1)).toInt ≤ 0 by omega), pj_cT, pj_b0_neF z, pj_cF, n10, pj_cT]⟩
        · exact ⟨by rw [pj_cF, pj_cF, pj_b0_neT z, pj_cT, pj_cT, n01, pj_cT], by rw [pj_cF, pj_cF, pj_b0_leF (show 0 < (pj_ai R 179 (4 * n + 1)).toInt by omega), pj_cF, pj_b0_neT z, pj_cT, n00, pj_cF]⟩
theorem mr_at2 {C R : pj_G} (iC : pj_Inv C) (iR : pj_Inv R) (hc : (pj_fi C 21 0).toInt = (pj_fi R 171 5).toInt) {np B kc : Int} (hS : mr_row C 21 R 179 0 (pj_fi C 21 0).toInt np B kc) (c : Int32) : F_70_21x C c = F_206x R c (Int32.ofInt 1) ∧ F_71_21x C c = F_206x R c (Int32.ofInt 0) := by
  have k0 : (Int32.ofInt 0).toInt = 0 := by decide
  have r : (0 : Int) ≤ (pj_fi C 21 0).toInt ∧ (pj_fi C 21 0).toInt ≤ 6 := iC.2.1 21 0 (0, 6) rfl
  rw [F_70_21x_e, F_71_21x_e, F_206x_e, F_206x_e]
  exact mr_at iR hc r.2 hS c 6 7 7 (Int32.ofInt 0) (by omega) (by omega) (by omega) (by omega)
/-- PLACE -/
theorem mr_100 {C R : pj_G} (hV : mr_V C R) (c : Int32) (h1 : -1 ≤ c.toInt) (h2 : c.toInt < (pj_fi R 171 4).toInt) : F_100x C c = F_204x R c := by
  have km : (Int32.ofInt (-1)).toInt = -1 := by decide
  rw [F_100x_e, F_204x_e]
  simp only [pj_nm_x]
  by_cases q : c.toInt = -1
  · rw [pj_b_neF (show c.toInt = (Int32.ofInt (-1)).toInt by omega), pj_cF, pj_b0_geF (show c.toInt < 0 by omega), pj_cF]
  · rw [pj_b_neT (show ¬ c.toInt = (Int32.ofInt (-1)).toInt by omega), pj_cT, pj_b0_geT (show 0 ≤ c.toInt by omega), pj_cT]
    rcases hV with v | v
    · rw [pj_rb_t v.1, pj_cT]
      exact (v.2.2.2.2 c.toInt.toNat (by omega)).2.2.1
    · rw [pj_rb_f v.1 rfl, pj_cF]
      exact (v.2.2.2.2 c.toInt.toNat (by omega)).2.2.1
