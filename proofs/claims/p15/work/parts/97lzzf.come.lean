/-! BRIDGES, PEOPLE COME: ON BOTH SIDES -/
def mr_L (C R : pj_G) : Prop := ∀ b : Nat, (b : Int) < (pj_fi C 21 0).toInt → pj_ai C 31 b = pj_ai R 177 b
def mr_Sb (C R : pj_G) : Prop := ∀ b : Nat, (b : Int) < (pj_fi C 21 0).toInt → pj_ai C 22 b = pj_ai R 179 (4 * b) ∧ pj_ai C 23 b = pj_ai R 179 (4 * b + 1) ∧ pj_ai C 25 b = pj_ai R 179 (4 * b + 2) ∧ pj_ai C 24 b = pj_ai R 179 (4 * b + 3)
def mr_H (C R : pj_G) : Prop := ∀ p : Nat, (p : Int) < (pj_fi C 21 5).toInt → pj_ai C 32 p = pj_ai R 178 p
def mr_Sp (C R : pj_G) : Prop := ∀ p : Nat, (p : Int) < (pj_fi C 21 5).toInt → pj_ai C 26 p = pj_ai R 179 (24 + p)
/-- a bridge comes in the reference -/
def mr_bwn (W : pj_G) (N : Nat) (x y z : Int32) : pj_G := pj_wv (pj_wa (pj_wa (pj_wa (pj_wa (pj_wa W 177 N x) 179 (4 * N) (Int32.ofInt (-1))) 179 (4 * N + 1) (Int32.ofInt 0)) 179 (4 * N + 2) (Int32.ofInt (-1))) 179 (4 * N + 3) y) 171 5 (.int z)
theorem mr_bwn_s {W : pj_G} (hS : pj_coks pj_tb W.1 = true) (N : Nat) (x y z : Int32) : pj_coks pj_tb (mr_bwn W N x y z).1 = true := mr_sv (mr_sa (mr_sa (mr_sa (mr_sa (mr_sa hS (a := 177) rfl _ _) (a := 179) rfl _ _) (a := 179) rfl _ _) (a := 179) rfl _ _) (a := 179) rfl _ _) (a := 171) (ci := 12) (k := 5) rfl _
theorem mr_bwn_f (W : pj_G) (N : Nat) (x y z : Int32) (a k : Nat) (h : ¬ (a = 171 ∧ k = 5)) : pj_fi (mr_bwn W N x y z) a k = pj_fi W a k := by
  unfold mr_bwn
  rw [pj_fi_wv_ne _ _ _ _ _ _ h, pj_fi_wa, pj_fi_wa, pj_fi_wa, pj_fi_wa, pj_fi_wa]
theorem mr_bwn_e {W : pj_G} (hS : pj_coks pj_tb W.1 = true) (N : Nat) (x y z : Int32) : pj_fi (mr_bwn W N x y z) 171 5 = z ∧ pj_ai (mr_bwn W N x y z) 177 N = x ∧ pj_ai (mr_bwn W N x y z) 179 (4 * N) = Int32.ofInt (-1) ∧ pj_ai (mr_bwn W N x y z) 179 (4 * N + 1) = Int32.ofInt 0 ∧ pj_ai (mr_bwn W N x y z) 179 (4 * N + 2) = Int32.ofInt (-1) ∧ pj_ai (mr_bwn W N x y z) 179 (4 * N + 3) = y := by
  have s1 := mr_sa hS (a := 177) rfl N x
  have s2 := mr_sa s1 (a := 179) rfl (4 * N) (Int32.ofInt (-1))
  have s3 := mr_sa s2 (a := 179) rfl (4 * N + 1) (Int32.ofInt 0)
  have s4 := mr_sa s3 (a := 179) rfl (4 * N + 2) (Int32.ofInt (-1))
  have s5 := mr_sa s4 (a := 179) rfl (4 * N + 3) y
  unfold mr_bwn
  refine ⟨pj_fi_wi s5 (a := 171) (ci := 12) (k := 5) rfl _, ?_, ?_, ?_, ?_, ?_⟩
  · rw [pj_ai_wv, pj_ai_wa_ne _ _ _ _ _ _ (by decide), pj_ai_wa_ne _ _ _ _ _ _ (by decide), pj_ai_wa_ne _ _ _ _ _ _ (by decide), pj_ai_wa_ne _ _ _ _ _ _ (by decide)]
    exact pj_ai_wa_eq hS rfl
  · rw [pj_ai_wv, pj_ai_wa_nj _ _ _ _ _ (by omega), pj_ai_wa_nj _ _ _ _ _ (by omega), pj_ai_wa_nj _ _ _ _ _ (by omega)]
    exact pj_ai_wa_eq s1 rfl
  · rw [pj_ai_wv, pj_ai_wa_nj _ _ _ _ _ (by omega), pj_ai_wa_nj _ _ _ _ _ (by omega)]
    exact pj_ai_wa_eq s2 rfl
  · rw [pj_ai_wv, pj_ai_wa_nj _ _ _ _ _ (by omega)]
    exact pj_ai_wa_eq s3 rfl
  · rw [pj_ai_wv]
    exact pj_ai_wa_eq s4 rfl
theorem mr_bwn_a (W : pj_G) (N : Nat) (x y z : Int32) (a j : Nat) (h1 : a = 177 → j ≠ N) (h2 : a = 179 → j < 4 * N ∨ 4 * N + 4 ≤ j) : pj_ai (mr_bwn W N x y z) a j = pj_ai W a j := by
  have e : ∀ (G : pj_G) (b i : Nat) (v : Int32), (a = b → j ≠ i) → pj_ai (pj_wa G b i v) a j = pj_ai G a j := fun G b i v h => by
    by_cases q : a = b
    · have := h q
      subst q
      exact pj_ai_wa_nj _ _ _ _ _ this
    · exact pj_ai_wa_ne _ _ _ _ _ _ q
  unfold mr_bwn
  rw [pj_ai_wv, e _ _ _ _ (fun q => by have := h2 q; omega), e _ _ _ _ (fun q => by have := h2 q; omega), e _ _ _ _ (fun q => by have := h2 q; omega), e _ _ _ _ (fun q => by have := h2 q; omega), e _ _ _ _ h1]
theorem mr_L196 (R0 : pj_G) (g : Nat) (v1 v2 : Int32) (W : pj_G) : L_196tx R0 (g + 1) v1 v2 W = cond (pj_c1 .ge v2 (pj_fi W 171 22)) (cond (pj_c1 .le (pj_fi W 171 22) 0) (pj_fi W 171 22, W) (pj_fi (F_193x W) 171 22, F_193x W)) (L_196tx R0 g v1 (v2 + Int32.ofInt 1) (pj_wv (pj_wa (pj_wa (pj_wa (pj_wa (pj_wa W 177 (pj_fi W 171 5).toInt.toNat (pj_ai W 181 (Int32.ofInt 2 * v2).toInt.toNat)) 179 (Int32.ofInt 4 * pj_fi W 171 5 + Int32.ofInt 0).toInt.toNat (Int32.ofInt (-1))) 179 (Int32.ofInt 4 * pj_fi W 171 5 + Int32.ofInt 1).toInt.toNat (Int32.ofInt 0)) 179 (Int32.ofInt 4 * pj_fi W 171 5 + Int32.ofInt 2).toInt.toNat (Int32.ofInt (-1))) 179 (Int32.ofInt 4 * pj_fi W 171 5 + Int32.ofInt 3).toInt.toNat (pj_ai W 181 (Int32.ofInt 2 * v2 + Int32.ofInt 1).toInt.toNat)) 171 5 (.int (pj_fi W 171 5 + Int32.ofInt 1)))) := by
  have e1 : ∀ (G : pj_G) (j : Nat) (x : Int32) (i : Nat), pj_ai (pj_wa G 177 j x) 181 i = pj_ai G 181 i := fun G j x i => pj_ai_wa_ne _ _ _ _ _ _ (by decide)
  have e2 : ∀ (G : pj_G) (j : Nat) (x : Int32) (i : Nat), pj_ai (pj_wa G 179 j x) 181 i = pj_ai G 181 i := fun G j x i => pj_ai_wa_ne _ _ _ _ _ _ (by decide)
  rw [L_196tx_s0]
  simp only [pj_nm_x, e1, e2]
noncomputable def mr_fin (V : pj_G) : Int32 × pj_G := cond (pj_c1 .le (pj_fi V 171 22) 0) (pj_fi V 171 22, V) (pj_fi (F_193x V) 171 22, F_193x V)
theorem mr_cb (R0 : pj_G) (v1 : Int32) (B : Nat) : ∀ (m g : Nat) (v2 : Int32) (W : pj_G), pj_coks pj_tb W.1 = true → 0 ≤ v2.toInt → v2.toInt ≤ (pj_fi W 171 22).toInt → (pj_fi W 171 5).toInt = (B : Int) + v2.toInt → (B : Int) + (pj_fi W 171 22).toInt ≤ 6 → (pj_fi W 171 22).toInt - v2.toInt ≤ m → m < g → ∃ V : pj_G, L_196tx R0 g v1 v2 W = mr_fin V ∧ pj_coks pj_tb V.1 = true ∧ (∀ a k, ¬ (a = 171 ∧ k = 5) → pj_fi V a k = pj_fi W a k) ∧ (pj_fi V 171 5).toInt = (B : Int) + (pj_fi W 171 22).toInt ∧ (∀ a j, a ≠ 177 → a ≠ 179 → pj_ai V a j = pj_ai W a j) ∧ (∀ j : Nat, (j : Int) < (B : Int) + v2.toInt → pj_ai V 177 j = pj_ai W 177 j) ∧ (∀ j : Nat, (j : Int) < 4 * ((B : Int) + v2.toInt) ∨ 24 ≤ j → pj_ai V 179 j = pj_ai W 179 j) ∧ (∀ i : Nat, v2.toInt ≤ (i : Int) → (i : Int) < (pj_fi W 171 22).toInt → pj_ai V 177 (B + i) = pj_ai W 181 (2 * i) ∧ pj_ai V 179 (4 * (B + i)) = Int32.ofInt (-1) ∧ pj_ai V 179 (4 * (B + i) + 1) = Int32.ofInt 0 ∧ pj_ai V 179 (4 * (B + i) + 2) = Int32.ofInt (-1) ∧ pj_ai V 179 (4 * (B + i) + 3) = pj_ai W 181 (2 * i + 1)) := by
  have k0 : (Int32.ofInt 0).toInt = 0 := by decide
  have k1 : (Int32.ofInt 1).toInt = 1 := by decide
  have k2 : (Int32.ofInt 2).toInt = 2 := by decide
  have k3 : (Int32.ofInt 3).toInt = 3 := by decide
  have k4 : (Int32.ofInt 4).toInt = 4 := by decide
  intro m
  induction m with
  | zero =>
    intro g v2 W hS h0 h1 h5 h6 h3 h4
    obtain ⟨g, rfl⟩ : ∃ q, g = q + 1 := ⟨g - 1, by omega⟩
    rw [mr_L196, pj_b_geT (show (pj_fi W 171 22).toInt ≤ v2.toInt by omega), pj_cT]
    exact ⟨W, rfl, hS, fun _ _ _ => rfl, by omega, fun _ _ _ _ => rfl, fun _ _ => rfl, fun _ _ => rfl, fun i h7 h8 => absurd h8 (by omega)⟩
  | succ m ih =>
    intro g v2 W hS h0 h1 h5 h6 h3 h4
    obtain ⟨g, rfl⟩ : ∃ q, g = q + 1 := ⟨g - 1, by omega⟩
    rw [mr_L196]
    by_cases q : (pj_fi W 171 22).toInt ≤ v2.toInt
    · rw [pj_b_geT q, pj_cT]
      exact ⟨W, rfl, hS, fun _ _ _ => rfl, by omega, fun _ _ _ _ => rfl, fun _ _ => rfl, fun _ _ => rfl, fun i h7 h8 => absurd h8 (by omega)⟩
    · rw [pj_b_geF (show v2.toInt < (pj_fi W 171 22).toInt by omega), pj_cF]
      obtain ⟨n, hn⟩ : ∃ n : Nat, (n : Int) = v2.toInt := ⟨v2.toInt.toNat, by omega⟩
      have s : (v2 + Int32.ofInt 1).toInt = v2.toInt + 1 := by rw [pj_addI (by omega) (by omega), k1]
      have sm : (Int32.ofInt 2 * v2).toInt = 2 * v2.toInt := pj_mulL k2 (by omega) (by omega)
      have sm1 : (Int32.ofInt 2 * v2 + Int32.ofInt 1).toInt = 2 * v2.toInt + 1 := by rw [pj_addI (by omega) (by omega), sm, k1]
      have t0 : (Int32.ofInt 4 * pj_fi W 171 5).toInt = 4 * (pj_fi W 171 5).toInt := pj_mulL k4 (by omega) (by omega)
      have t1 : (Int32.ofInt 4 * pj_fi W 171 5 + Int32.ofInt 0).toInt = 4 * (pj_fi W 171 5).toInt := by rw [pj_addI (by omega) (by omega), t0, k0]; omega
      have t2 : (Int32.ofInt 4 * pj_fi W 171 5 + Int32.ofInt 1).toInt = 4 * (pj_fi W 171 5).toInt + 1 := by rw [pj_addI (by omega) (by omega), t0, k1]
      have t3 : (Int32.ofInt 4 * pj_fi W 171 5 + Int32.ofInt 2).toInt = 4 * (pj_fi W 171 5).toInt + 2 := by rw [pj_addI (by omega) (by omega), t0, k2]
      have t4 : (Int32.ofInt 4 * pj_fi W 171 5 + Int32.ofInt 3).toInt = 4 * (pj_fi W 171 5).toInt + 3 := by rw [pj_addI (by omega) (by omega), t0, k3]
      have s5 : (pj_fi W 171 5 + Int32.ofInt 1).toInt = (pj_fi W 171 5).toInt + 1 := by rw [pj_addI (by omega) (by omega), k1]
      rw [show (pj_fi W 171 5).toInt.toNat = B + n by omega, show (Int32.ofInt 2 * v2).toInt.toNat = 2 * n by omega, show (Int32.ofInt 2 * v2 + Int32.ofInt 1).toInt.toNat = 2 * n + 1 by omega, show (Int32.ofInt 4 * pj_fi W 171 5 + Int32.ofInt 0).toInt.toNat = 4 * (B + n) by omega, show (Int32.ofInt 4 * pj_fi W 171 5 + Int32.ofInt 1).toInt.toNat = 4 * (B + n) + 1 by omega, show (Int32.ofInt 4 * pj_fi W 171 5 + Int32.ofInt 2).toInt.toNat = 4 * (B + n) + 2 by omega, show (Int32.ofInt 4 * pj_fi W 171 5 + Int32.ofInt 3).toInt.toNat = 4 * (B + n) + 3 by omega]
      obtain ⟨e1, e2, e3, e4, e5, e6⟩ := mr_bwn_e hS (B + n) (pj_ai W 181 (2 * n)) (pj_ai W 181 (2 * n + 1)) (pj_fi W 171 5 + Int32.ofInt 1)
      have hf := mr_bwn_f W (B + n) (pj_ai W 181 (2 * n)) (pj_ai W 181 (2 * n + 1)) (pj_fi W 171 5 + Int32.ofInt 1)
      have ha := mr_bwn_a W (B + n) (pj_ai W 181 (2 * n)) (pj_ai W 181 (2 * n + 1)) (pj_fi W 171 5 + Int32.ofInt 1)
      have hs2 := mr_bwn_s hS (B + n) (pj_ai W 181 (2 * n)) (pj_ai W 181 (2 * n + 1)) (pj_fi W 171 5 + Int32.ofInt 1)
      have hdef : pj_wv (pj_wa (pj_wa (pj_wa (pj_wa (pj_wa W 177 (B + n) (pj_ai W 181 (2 * n))) 179 (4 * (B + n)) (Int32.ofInt (-1))) 179 (4 * (B + n) + 1) (Int32.ofInt 0)) 179 (4 * (B + n) + 2) (Int32.ofInt (-1))) 179 (4 * (B + n) + 3) (pj_ai W 181 (2 * n + 1))) 171 5 (.int (pj_fi W 171 5 + Int32.ofInt 1)) = mr_bwn W (B + n) (pj_ai W 181 (2 * n)) (pj_ai W 181 (2 * n + 1)) (pj_fi W 171 5 + Int32.ofInt 1) := by unfold mr_bwn; rfl
      rw [hdef]
      generalize mr_bwn W (B + n) (pj_ai W 181 (2 * n)) (pj_ai W 181 (2 * n + 1)) (pj_fi W 171 5 + Int32.ofInt 1) = W2 at *
      have f22 := hf 171 22 (by omega)
      obtain ⟨V, z1, z2, z3, z4, z5, z6, z7, z8⟩ := ih g (v2 + Int32.ofInt 1) W2 hs2 (by omega) (by rw [f22]; omega) (by rw [e1]; omega) (by rw [f22]; exact h6) (by rw [f22]; omega) (by omega)
      rw [f22] at z4 z8
      refine ⟨V, z1, z2, fun a k h => (z3 a k h).trans (hf a k h), z4, fun a j p1 p2 => (z5 a j p1 p2).trans (ha a j (fun z => absurd z p1) (fun z => absurd z p2)), fun j hj => (z6 j (by omega)).trans (ha 177 j (fun _ => by omega) (fun z => by omega)), fun j hj => (z7 j (by omega)).trans (ha 179 j (fun z => by omega) (fun _ => by omega)), fun i h7 h8 => ?_⟩
      by_cases qi : i = n
      · subst qi
        exact ⟨(z6 _ (by omega)).trans e2, (z7 _ (by omega)).trans e3, (z7 _ (by omega)).trans e4, (z7 _ (by omega)).trans e5, (z7 _ (by omega)).trans e6⟩
      · obtain ⟨y1, y2, y3, y4, y5⟩ := z8 i (by omega) h8
        have a181 : ∀ j, pj_ai W2 181 j = pj_ai W 181 j := fun j => ha 181 j (fun z => by omega) (fun z => by omega)
        exact ⟨y1.trans (a181 _), y2, y3, y4, y5.trans (a181 _)⟩
/-- one of people comes in the reference -/
def mr_pwn (W : pj_G) (N : Nat) (x y z : Int32) : pj_G := pj_wv (pj_wa (pj_wa W 179 (24 + N) x) 178 N y) 171 6 (.int z)
theorem mr_pwn_s {W : pj_G} (hS : pj_coks pj_tb W.1 = true) (N : Nat) (x y z : Int32) : pj_coks pj_tb (mr_pwn W N x y z).1 = true := mr_sv (mr_sa (mr_sa hS (a := 179) rfl _ _) (a := 178) rfl _ _) (a := 171) (ci := 12) (k := 6) rfl _
theorem mr_pwn_f (W : pj_G) (N : Nat) (x y z : Int32) (a k : Nat) (h : ¬ (a = 171 ∧ k = 6)) : pj_fi (mr_pwn W N x y z) a k = pj_fi W a k := by
  unfold mr_pwn
  rw [pj_fi_wv_ne _ _ _ _ _ _ h, pj_fi_wa, pj_fi_wa]
theorem mr_pwn_e {W : pj_G} (hS : pj_coks pj_tb W.1 = true) (N : Nat) (x y z : Int32) : pj_fi (mr_pwn W N x y z) 171 6 = z ∧ pj_ai (mr_pwn W N x y z) 179 (24 + N) = x ∧ pj_ai (mr_pwn W N x y z) 178 N = y := by
  have s1 := mr_sa hS (a := 179) rfl (24 + N) x
  have s2 := mr_sa s1 (a := 178) rfl N y
  unfold mr_pwn
  refine ⟨pj_fi_wi s2 (a := 171) (ci := 12) (k := 6) rfl _, ?_, ?_⟩
  · rw [pj_ai_wv, pj_ai_wa_ne _ _ _ _ _ _ (by decide)]
    exact pj_ai_wa_eq hS rfl
  · rw [pj_ai_wv]
    exact pj_ai_wa_eq s1 rfl
theorem mr_pwn_a (W : pj_G) (N : Nat) (x y z : Int32) (a j : Nat) (h1 : a = 178 → j ≠ N) (h2 : a = 179 → j ≠ 24 + N) : pj_ai (mr_pwn W N x y z) a j = pj_ai W a j := by
  have e : ∀ (G : pj_G) (b i : Nat) (v : Int32), (a = b → j ≠ i) → pj_ai (pj_wa G b i v) a j = pj_ai G a j := fun G b i v h => by
    by_cases q : a = b
    · have := h q
      subst q
      exact pj_ai_wa_nj _ _ _ _ _ this
    · exact pj_ai_wa_ne _ _ _ _ _ _ q
  unfold mr_pwn
  rw [pj_ai_wv, e _ _ _ _ h1, e _ _ _ _ h2]
theorem mr_L197 (R0 : pj_G) (g : Nat) (v1 v2 : Int32) (W : pj_G) : L_197tx R0 (g + 1) v1 v2 W = cond (pj_c1 .ge v2 (pj_fi W 171 22)) (cond (pj_c1 .le (pj_fi W 171 22) 0) (pj_fi W 171 22, W) (pj_fi (F_193x W) 171 22, F_193x W)) (L_197tx R0 g v1 (v2 + Int32.ofInt 1) (pj_wv (pj_wa (pj_wa W 179 (((Int8.ofInt 24).toInt32) + pj_fi W 171 6).toInt.toNat (pj_ai W 181 (Int32.ofInt 2 * v2).toInt.toNat)) 178 (pj_fi W 171 6).toInt.toNat (pj_ai W 181 (Int32.ofInt 2 * v2 + Int32.ofInt 1).toInt.toNat)) 171 6 (.int (pj_fi W 171 6 + Int32.ofInt 1)))) := by
  have e2 : ∀ (G : pj_G) (j : Nat) (x : Int32) (i : Nat), pj_ai (pj_wa G 179 j x) 181 i = pj_ai G 181 i := fun G j x i => pj_ai_wa_ne _ _ _ _ _ _ (by decide)
  rw [L_197tx_s0]
  simp only [pj_nm_x, e2]
theorem mr_cpp (R0 : pj_G) (v1 : Int32) (B : Nat) : ∀ (m g : Nat) (v2 : Int32) (W : pj_G), pj_coks pj_tb W.1 = true → 0 ≤ v2.toInt → v2.toInt ≤ (pj_fi W 171 22).toInt → (pj_fi W 171 6).toInt = (B : Int) + v2.toInt → (B : Int) + (pj_fi W 171 22).toInt ≤ 6 → (pj_fi W 171 22).toInt - v2.toInt ≤ m → m < g → ∃ V : pj_G, L_197tx R0 g v1 v2 W = mr_fin V ∧ pj_coks pj_tb V.1 = true ∧ (∀ a k, ¬ (a = 171 ∧ k = 6) → pj_fi V a k = pj_fi W a k) ∧ (pj_fi V 171 6).toInt = (B : Int) + (pj_fi W 171 22).toInt ∧ (∀ a j, a ≠ 178 → a ≠ 179 → pj_ai V a j = pj_ai W a j) ∧ (∀ j : Nat, (j : Int) < (B : Int) + v2.toInt → pj_ai V 178 j = pj_ai W 178 j) ∧ (∀ j : Nat, (j : Int) < 24 + ((B : Int) + v2.toInt) ∨ 30 ≤ j → pj_ai V 179 j = pj_ai W 179 j) ∧ (∀ i : Nat, v2.toInt ≤ (i : Int) → (i : Int) < (pj_fi W 171 22).toInt → pj_ai V 179 (24 + (B + i)) = pj_ai W 181 (2 * i) ∧ pj_ai V 178 (B + i) = pj_ai W 181 (2 * i + 1)) := by
  have k1 : (Int32.ofInt 1).toInt = 1 := by decide
  have k2 : (Int32.ofInt 2).toInt = 2 := by decide
  have k24 : (((Int8.ofInt 24).toInt32)).toInt = 24 := by decide
  intro m
  induction m with
  | zero =>
    intro g v2 W hS h0 h1 h5 h6 h3 h4
    obtain ⟨g, rfl⟩ : ∃ q, g = q + 1 := ⟨g - 1, by omega⟩
    rw [mr_L197, pj_b_geT (show (pj_fi W 171 22).toInt ≤ v2.toInt by omega), pj_cT]
    exact ⟨W, rfl, hS, fun _ _ _ => rfl, by omega, fun _ _ _ _ => rfl, fun _ _ => rfl, fun _ _ => rfl, fun i h7 h8 => absurd h8 (by omega)⟩
  | succ m ih =>
    intro g v2 W hS h0 h1 h5 h6 h3 h4
    obtain ⟨g, rfl⟩ : ∃ q, g = q + 1 := ⟨g - 1, by omega⟩
    rw [mr_L197]
    by_cases q : (pj_fi W 171 22).toInt ≤ v2.toInt
    · rw [pj_b_geT q, pj_cT]
      exact ⟨W, rfl, hS, fun _ _ _ => rfl, by omega, fun _ _ _ _ => rfl, fun _ _ => rfl, fun _ _ => rfl, fun i h7 h8 => absurd h8 (by omega)⟩
    · rw [pj_b_geF (show v2.toInt < (pj_fi W 171 22).toInt by omega), pj_cF]
      obtain ⟨n, hn⟩ : ∃ n : Nat, (n : Int) = v2.toInt := ⟨v2.toInt.toNat, by omega⟩
      have s : (v2 + Int32.ofInt 1).toInt = v2.toInt + 1 := by rw [pj_addI (by omega) (by omega), k1]
      have sm : (Int32.ofInt 2 * v2).toInt = 2 * v2.toInt := pj_mulL k2 (by omega) (by omega)
      have sm1 : (Int32.ofInt 2 * v2 + Int32.ofInt 1).toInt = 2 * v2.toInt + 1 := by rw [pj_addI (by omega) (by omega), sm, k1]
      have t0 : (((Int8.ofInt 24).toInt32) + pj_fi W 171 6).toInt = 24 + (pj_fi W 171 6).toInt := by rw [pj_addI (by omega) (by omega), k24]
      have s5 : (pj_fi W 171 6 + Int32.ofInt 1).toInt = (pj_fi W 171 6).toInt + 1 := by rw [pj_addI (by omega) (by omega), k1]
      rw [show (pj_fi W 171 6).toInt.toNat = B + n by omega, show (Int32.ofInt 2 * v2).toInt.toNat = 2 * n by omega, show (Int32.ofInt 2 * v2 + Int32.ofInt 1).toInt.toNat = 2 * n + 1 by omega, show (((Int8.ofInt 24).toInt32) + pj_fi W 171 6).toInt.toNat = 24 + (B + n) by omega]
      obtain ⟨e1, e2, e3⟩ := mr_pwn_e hS (B + n) (pj_ai W 181 (2 * n)) (pj_ai W 181 (2 * n + 1)) (pj_fi W 171 6 + Int32.ofInt 1)
      have hf := mr_pwn_f W (B + n) (pj_ai W 181 (2 * n)) (pj_ai W 181 (2 * n + 1)) (pj_fi W 171 6 + Int32.ofInt 1)
      have ha := mr_pwn_a W (B + n) (pj_ai W 181 (2 * n)) (pj_ai W 181 (2 * n + 1)) (pj_fi W 171 6 + Int32.ofInt 1)
      have hs2 := mr_pwn_s hS (B + n) (pj_ai W 181 (2 * n)) (pj_ai W 181 (2 * n + 1)) (pj_fi W 171 6 + Int32.ofInt 1)
      have hdef : pj_wv (pj_wa (pj_wa W 179 (24 + (B + n)) (pj_ai W 181 (2 * n))) 178 (B + n) (pj_ai W 181 (2 * n + 1))) 171 6 (.int (pj_fi W 171 6 + Int32.ofInt 1)) = mr_pwn W (B + n) (pj_ai W 181 (2 * n)) (pj_ai W 181 (2 * n + 1)) (pj_fi W 171 6 + Int32.ofInt 1) := by unfold mr_pwn; rfl
      rw [hdef]
      generalize mr_pwn W (B + n) (pj_ai W 181 (2 * n)) (pj_ai W 181 (2 * n + 1)) (pj_fi W 171 6 + Int32.ofInt 1) = W2 at *
      have f22 := hf 171 22 (by omega)
      obtain ⟨V, z1, z2, z3, z4, z5, z6, z7, z8⟩ := ih g (v2 + Int32.ofInt 1) W2 hs2 (by omega) (by rw [f22]; omega) (by rw [e1]; omega) (by rw [f22]; exact h6) (by rw [f22]; omega) (by omega)
      rw [f22] at z4 z8
      refine ⟨V, z1, z2, fun a k h => (z3 a k h).trans (hf a k h), z4, fun a j p1 p2 => (z5 a j p1 p2).trans (ha a j (fun z => absurd z p1) (fun z => absurd z p2)), fun j hj => (z6 j (by omega)).trans (ha 178 j (fun _ => by omega) (fun z => by omega)), fun j hj => (z7 j (by omega)).trans (ha 179 j (fun z => by omega) (fun _ => by omega)), fun i h7 h8 => ?_⟩
      by_cases qi : i = n
      · subst qi
        exact ⟨(z7 _ (by omega)).trans e2, (z6 _ (by omega)).trans e3⟩
      · obtain ⟨y1, y2⟩ := z8 i (by omega) h8
        have a181 : ∀ j, pj_ai W2 181 j = pj_ai W 181 j := fun j => ha 181 j (fun z => by omega) (fun z => by omega)
        exact ⟨y1.trans (a181 _), y2.trans (a181 _)⟩
