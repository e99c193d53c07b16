/-! THE REFERENCE'S LOOP -/
noncomputable def tx_EX (R0 : pj_G) (g : Nat) (n is : Int32) (R : pj_G) : Int32 × pj_G := pj_nm (F_189x R n ((Int8.ofInt 72).toInt32) is) (fun f => cond (pj_c1 .ge f 0) (pj_nm (pj_fi R 171 21) (fun y3 => pj_nm (pj_wv R 171 3 (.int y3)) (fun G17 => pj_nm (pj_fi R 171 22) (fun y2 => pj_nm (pj_wv G17 171 4 (.int y2)) (fun G18 => L_192tx R0 g 1 n is f (Int32.ofInt 0) G18))))) (f, R))
theorem tx_L192 (R0 : pj_G) (g : Nat) (n is : Int32) (R : pj_G) : L_192tx R0 (g + 1) 0 n is 0 0 R = cond (pj_c1 .eq is 0) (tx_EX R0 g n is R) (cond (pj_c1 .ge (pj_fi R 171 22) ((Int8.ofInt 10).toInt32)) (tx_EX R0 g n is R) (pj_bd (F_183x R ((Int8.ofInt 59).toInt32)) (fun y79 G80 => cond (pj_c1 .eq y79 0) (tx_EX R0 g n is G80) (pj_bd (F_191x G80) (fun y133 G134 => L_192tx R0 g 0 n y133 0 0 G134))))) := rfl
theorem tx_cp (R0 : pj_G) (n is f : Int32) : ∀ (m g : Nat) (v4 : Int32) (W : pj_G), 0 ≤ v4.toInt → v4.toInt ≤ 10 → (pj_fi W 171 4).toInt ≤ 10 → (pj_fi W 171 4).toInt - v4.toInt ≤ m → m < g → (L_192tx R0 g 1 n is f v4 W).1 = pj_fi W 171 4 := by
  have k1 : (Int32.ofInt 1).toInt = 1 := by decide
  intro m
  induction m with
  | zero =>
    intro g v4 W h0 h1 h2 h3 h4
    obtain ⟨g, rfl⟩ : ∃ q, g = q + 1 := ⟨g - 1, by omega⟩
    rw [L_192tx_s1]
    simp only [pj_nm_x]
    rw [pj_b_geT (show (pj_fi W 171 4).toInt ≤ v4.toInt by omega), pj_cT, F_193x_e]
    simp only [pj_nm_x]
    rw [pj_fi_wv_ne _ _ _ _ _ _ (by decide), pj_fi_wv_ne _ _ _ _ _ _ (by decide), pj_fi_wa, pj_fi_wa, pj_fi_wv_ne _ _ _ _ _ _ (by decide), pj_fi_wv_ne _ _ _ _ _ _ (by decide)]
  | succ m ih =>
    intro g v4 W h0 h1 h2 h3 h4
    obtain ⟨g, rfl⟩ : ∃ q, g = q + 1 := ⟨g - 1, by omega⟩
    rw [L_192tx_s1]
    simp only [pj_nm_x]
    by_cases q : (pj_fi W 171 4).toInt ≤ v4.toInt
    · rw [pj_b_geT q, pj_cT, F_193x_e]
      simp only [pj_nm_x]
      rw [pj_fi_wv_ne _ _ _ _ _ _ (by decide), pj_fi_wv_ne _ _ _ _ _ _ (by decide), pj_fi_wa, pj_fi_wa, pj_fi_wv_ne _ _ _ _ _ _ (by decide), pj_fi_wv_ne _ _ _ _ _ _ (by decide)]
    · rw [pj_b_geF (show v4.toInt < (pj_fi W 171 4).toInt by omega), pj_cF]
      have s : (v4 + Int32.ofInt 1).toInt = v4.toInt + 1 := by rw [pj_addI (by omega) (by omega), k1]
      refine (ih g _ _ ?_ ?_ ?_ ?_ (by omega)).trans ?_
      · omega
      · omega
      · rw [pj_fi_wa, pj_fi_wa, pj_fi_wa, pj_fi_wa]
        exact h2
      · rw [pj_fi_wa, pj_fi_wa, pj_fi_wa, pj_fi_wa]
        omega
      · rw [pj_fi_wa, pj_fi_wa, pj_fi_wa, pj_fi_wa]
/-! SHAPE -/
theorem mr_sv {G : pj_G} (hS : pj_coks pj_tb G.1 = true) {a ci k : Nat} (hk : pj_kd a ci k = some []) (x : Int32) : pj_coks pj_tb (pj_wv G a k (.int x)).1 = true := by
  obtain ⟨fs, v, hg, hv, hok, hset⟩ := pj_kd_s hS hk
  rw [pj_wv_eq hg]
  exact hset _ rfl
theorem mr_sa {G : pj_G} (hS : pj_coks pj_tb G.1 = true) {a n : Nat} {l : List (List Nat)} (ht : pj_tat a = some (1, n, l)) (j : Nat) (x : Int32) : pj_coks pj_tb (pj_wa G a j x).1 = true := by
  obtain ⟨f, hg, hset⟩ := pj_t1_s hS ht
  rw [pj_wa_eq hg]
  exact hset _
/-- what reading the river may write -/
def mr_RW : pj_KT := ([(171, 17), (171, 21), (171, 22), (171, 23)], [171, 181], [181])
/-- a crossing as it was read -/
def mr_wr (W : pj_G) (v4 : Int32) : pj_G := pj_wa (pj_wa (pj_wa (pj_wa W 173 v4.toInt.toNat (pj_ai W 181 (Int32.ofInt 4 * v4).toInt.toNat)) 174 v4.toInt.toNat (pj_ai W 181 (Int32.ofInt 4 * v4 + Int32.ofInt 1).toInt.toNat)) 175 v4.toInt.toNat (pj_ai W 181 (Int32.ofInt 4 * v4 + Int32.ofInt 2).toInt.toNat)) 176 v4.toInt.toNat (pj_ai W 181 (Int32.ofInt 4 * v4 + Int32.ofInt 3).toInt.toNat)
noncomputable def mr_end (W : pj_G) : pj_G := F_193x (pj_wa (pj_wa (pj_wv (pj_wv W 171 5 (.int (Int32.ofInt 0))) 171 6 (.int (Int32.ofInt 0))) 179 ((Int8.ofInt 30).toInt32).toInt.toNat (Int32.ofInt 0)) 179 ((Int8.ofInt 31).toInt32).toInt.toNat (Int32.ofInt 0))
theorem mr_L192 (R0 : pj_G) (g : Nat) (n is f v4 : Int32) (W : pj_G) : L_192tx R0 (g + 1) 1 n is f v4 W = cond (pj_c1 .ge v4 (pj_fi W 171 4)) (pj_fi (mr_end W) 171 4, mr_end W) (L_192tx R0 g 1 n is f (v4 + Int32.ofInt 1) (mr_wr W v4)) := by
  have e1 : ∀ (G : pj_G) (j : Nat) (x : Int32) (i : Nat), pj_ai (pj_wa G 173 j x) 181 i = pj_ai G 181 i := fun G j x i => pj_ai_wa_ne _ _ _ _ _ _ (by decide)
  have e2 : ∀ (G : pj_G) (j : Nat) (x : Int32) (i : Nat), pj_ai (pj_wa G 174 j x) 181 i = pj_ai G 181 i := fun G j x i => pj_ai_wa_ne _ _ _ _ _ _ (by decide)
  have e3 : ∀ (G : pj_G) (j : Nat) (x : Int32) (i : Nat), pj_ai (pj_wa G 175 j x) 181 i = pj_ai G 181 i := fun G j x i => pj_ai_wa_ne _ _ _ _ _ _ (by decide)
  rw [L_192tx_s1]
  unfold mr_end mr_wr
  simp only [pj_nm_x, e1, e2, e3]
theorem mr_wr_s {W : pj_G} (hS : pj_coks pj_tb W.1 = true) (v4 : Int32) : pj_coks pj_tb (mr_wr W v4).1 = true := mr_sa (mr_sa (mr_sa (mr_sa hS (a := 173) rfl _ _) (a := 174) rfl _ _) (a := 175) rfl _ _) (a := 176) rfl _ _
theorem mr_wr_f (W : pj_G) (v4 : Int32) (a k : Nat) : pj_fi (mr_wr W v4) a k = pj_fi W a k := by
  unfold mr_wr
  rw [pj_fi_wa, pj_fi_wa, pj_fi_wa, pj_fi_wa]
theorem mr_wr_a (W : pj_G) (v4 : Int32) (a j : Nat) (h : a < 173 ∨ 176 < a) : pj_ai (mr_wr W v4) a j = pj_ai W a j := by
  unfold mr_wr
  rw [pj_ai_wa_ne _ _ _ _ _ _ (by omega), pj_ai_wa_ne _ _ _ _ _ _ (by omega), pj_ai_wa_ne _ _ _ _ _ _ (by omega), pj_ai_wa_ne _ _ _ _ _ _ (by omega)]
theorem mr_wr_n (W : pj_G) (v4 : Int32) (a j : Nat) (h : j ≠ v4.toInt.toNat) : pj_ai (mr_wr W v4) a j = pj_ai W a j := by
  have e : ∀ (G : pj_G) (b : Nat) (x : Int32), pj_ai (pj_wa G b v4.toInt.toNat x) a j = pj_ai G a j := fun G b x => by
    by_cases q : a = b
    · subst q
      exact pj_ai_wa_nj _ _ _ _ _ h
    · exact pj_ai_wa_ne _ _ _ _ _ _ q
  unfold mr_wr
  rw [e, e, e, e]
theorem mr_wr_e {W : pj_G} (hS : pj_coks pj_tb W.1 = true) (v4 : Int32) : pj_ai (mr_wr W v4) 173 v4.toInt.toNat = pj_ai W 181 (Int32.ofInt 4 * v4).toInt.toNat ∧ pj_ai (mr_wr W v4) 174 v4.toInt.toNat = pj_ai W 181 (Int32.ofInt 4 * v4 + Int32.ofInt 1).toInt.toNat ∧ pj_ai (mr_wr W v4) 175 v4.toInt.toNat = pj_ai W 181 (Int32.ofInt 4 * v4 + Int32.ofInt 2).toInt.toNat ∧ pj_ai (mr_wr W v4) 176 v4.toInt.toNat = pj_ai W 181 (Int32.ofInt 4 * v4 + Int32.ofInt 3).toInt.toNat := by
  have s1 := mr_sa hS (a := 173) rfl v4.toInt.toNat (pj_ai W 181 (Int32.ofInt 4 * v4).toInt.toNat)
  have s2 := mr_sa s1 (a := 174) rfl v4.toInt.toNat (pj_ai W 181 (Int32.ofInt 4 * v4 + Int32.ofInt 1).toInt.toNat)
  have s3 := mr_sa s2 (a := 175) rfl v4.toInt.toNat (pj_ai W 181 (Int32.ofInt 4 * v4 + Int32.ofInt 2).toInt.toNat)
  unfold mr_wr
  refine ⟨?_, ?_, ?_, ?_⟩
  · rw [pj_ai_wa_ne _ _ _ _ _ _ (by decide), pj_ai_wa_ne _ _ _ _ _ _ (by decide), pj_ai_wa_ne _ _ _ _ _ _ (by decide)]
    exact pj_ai_wa_eq hS rfl
  · rw [pj_ai_wa_ne _ _ _ _ _ _ (by decide), pj_ai_wa_ne _ _ _ _ _ _ (by decide)]
    exact pj_ai_wa_eq s1 rfl
  · rw [pj_ai_wa_ne _ _ _ _ _ _ (by decide)]
    exact pj_ai_wa_eq s2 rfl
  · exact pj_ai_wa_eq s3 rfl
/-- a row of crossings against the signs read -/
def mr_rr (S H : pj_G) (i : Nat) : Prop := pj_ai H 173 i = pj_ai S 181 (4 * i) ∧ pj_ai H 174 i = pj_ai S 181 (4 * i + 1) ∧ pj_ai H 175 i = pj_ai S 181 (4 * i + 2) ∧ pj_ai H 176 i = pj_ai S 181 (4 * i + 3)
theorem mr_cp (R0 : pj_G) (n is f : Int32) : ∀ (m g : Nat) (v4 : Int32) (W : pj_G), pj_coks pj_tb W.1 = true → 0 ≤ v4.toInt → v4.toInt ≤ 10 → (pj_fi W 171 4).toInt ≤ 10 → (pj_fi W 171 4).toInt - v4.toInt ≤ m → m < g → ∃ V : pj_G, L_192tx R0 g 1 n is f v4 W = (pj_fi (mr_end V) 171 4, mr_end V) ∧ pj_coks pj_tb V.1 = true ∧ (∀ a k, pj_fi V a k = pj_fi W a k) ∧ (∀ a j, a < 173 ∨ 176 < a → pj_ai V a j = pj_ai W a j) ∧ (∀ a j : Nat, (j : Int) < v4.toInt → pj_ai V a j = pj_ai W a j) ∧ (∀ i : Nat, v4.toInt ≤ (i : Int) → (i : Int) < (pj_fi W 171 4).toInt → mr_rr W V i) := by
  have k1 : (Int32.ofInt 1).toInt = 1 := by decide
  have k2 : (Int32.ofInt 2).toInt = 2 := by decide
  have k3 : (Int32.ofInt 3).toInt = 3 := by decide
  have k4 : (Int32.ofInt 4).toInt = 4 := by decide
  intro m
  induction m with
  | zero =>
    intro g v4 W hS h0 h1 h2 h3 h4
    obtain ⟨g, rfl⟩ : ∃ q, g = q + 1 := ⟨g - 1, by omega⟩
    rw [mr_L192, pj_b_geT (show (pj_fi W 171 4).toInt ≤ v4.toInt by omega), pj_cT]
    exact ⟨W, rfl, hS, fun _ _ => rfl, fun _ _ _ => rfl, fun _ _ _ => rfl, fun i h5 h6 => absurd h6 (by omega)⟩
  | succ m ih =>
    intro g v4 W hS h0 h1 h2 h3 h4
    obtain ⟨g, rfl⟩ : ∃ q, g = q + 1 := ⟨g - 1, by omega⟩
    rw [mr_L192]
    by_cases q : (pj_fi W 171 4).toInt ≤ v4.toInt
    · rw [pj_b_geT q, pj_cT]
      exact ⟨W, rfl, hS, fun _ _ => rfl, fun _ _ _ => rfl, fun _ _ _ => rfl, fun i h5 h6 => absurd h6 (by omega)⟩
    · rw [pj_b_geF (show v4.toInt < (pj_fi W 171 4).toInt by omega), pj_cF]
      have s : (v4 + Int32.ofInt 1).toInt = v4.toInt + 1 := by rw [pj_addI (by omega) (by omega), k1]
      have f4 := mr_wr_f W v4 171 4
      obtain ⟨V, e, hV, e1, e2, e3, e4⟩ := ih g (v4 + Int32.ofInt 1) (mr_wr W v4) (mr_wr_s hS v4) (by omega) (by omega) (by rw [f4]; exact h2) (by rw [f4]; omega) (by omega)
      refine ⟨V, e, hV, fun a k => (e1 a k).trans (mr_wr_f W v4 a k), fun a j h => (e2 a j h).trans (mr_wr_a W v4 a j h), fun a j h => (e3 a j (by omega)).trans (mr_wr_n W v4 a j (by omega)), fun i h5 h6 => ?_⟩
      have a181 : ∀ j, pj_ai (mr_wr W v4) 181 j = pj_ai W 181 j := fun j => mr_wr_a W v4 181 j (by omega)
      by_cases qi : (i : Int) = v4.toInt
      · have sm : (Int32.ofInt 4 * v4).toInt = 4 * v4.toInt := pj_mulL k4 (by omega) (by omega)
        have sm1 : (Int32.ofInt 4 * v4 + Int32.ofInt 1).toInt = 4 * v4.toInt + 1 := by rw [pj_addI (by omega) (by omega), sm, k1]
        have sm2 : (Int32.ofInt 4 * v4 + Int32.ofInt 2).toInt = 4 * v4.toInt + 2 := by rw [pj_addI (by omega) (by omega), sm, k2]
        have sm3 : (Int32.ofInt 4 * v4 + Int32.ofInt 3).toInt = 4 * v4.toInt + 3 := by rw [pj_addI (by omega) (by omega), sm, k3]
        obtain ⟨w1, w2, w3, w4⟩ := mr_wr_e hS v4
        rw [show (Int32.ofInt 4 * v4).toInt.toNat = 4 * i by omega] at w1
        rw [show (Int32.ofInt 4 * v4 + Int32.ofInt 1).toInt.toNat = 4 * i + 1 by omega] at w2
        rw [show (Int32.ofInt 4 * v4 + Int32.ofInt 2).toInt.toNat = 4 * i + 2 by omega] at w3
        rw [show (Int32.ofInt 4 * v4 + Int32.ofInt 3).toInt.toNat = 4 * i + 3 by omega] at w4
        have ei : v4.toInt.toNat = i := by omega
        rw [ei] at w1 w2 w3 w4
        exact ⟨(e3 173 i (by omega)).trans w1, (e3 174 i (by omega)).trans w2, (e3 175 i (by omega)).trans w3, (e3 176 i (by omega)).trans w4⟩
      · have z := e4 i (by omega) (by rw [f4]; exact h6)
        exact ⟨z.1.trans (a181 _), z.2.1.trans (a181 _), z.2.2.1.trans (a181 _), z.2.2.2.trans (a181 _)⟩
theorem tx_fb5_7 {C : pj_G} (iC : pj_Inv C) (c : Int32) (rc : 0 ≤ c.toInt ∧ c.toInt ≤ 9) : pj_Inv (tx_B5_7 c C) ∧ pj_fi (tx_B5_7 c C) 7 1 = c + Int32.ofInt 1 ∧ pj_fi (tx_B5_7 c C) 7 0 = pj_fi C 7 0 := by
  have k1 : (((Int8.ofInt 49).toInt32)).toInt = 49 := by decide
  have k2 : (((Int8.ofInt 57).toInt32)).toInt = 57 := by decide
  have k3 : (Int32.ofInt 1).toInt = 1 := by decide
  obtain ⟨i1, kC, r1, ⟨r2, -⟩, -⟩ := fr_83x C iC ((Int8.ofInt 49).toInt32) ((Int8.ofInt 57).toInt32) (by omega) (by omega)
  have s : ((Int32.ofInt 1) + (F_83x C ((Int8.ofInt 49).toInt32) ((Int8.ofInt 57).toInt32)).1).toInt = 1 + (F_83x C ((Int8.ofInt 49).toInt32) ((Int8.ofInt 57).toInt32)).1.toInt := by rw [pj_addI (by omega) (by omega), k3]
  have sc : (c + (Int32.ofInt 1)).toInt = c.toInt + 1 := by rw [pj_addI (by omega) (by omega), k3]
  have j1 := tx_iw_7 i1 c.toInt.toNat ((Int32.ofInt 1) + (F_83x C ((Int8.ofInt 49).toInt32) ((Int8.ofInt 57).toInt32)).1) (by omega)
  refine ⟨tx_ic_7 j1 _ (by omega), pj_fi_wi j1.1 (ci := 5) rfl _, ?_⟩
  show pj_fi (pj_wv (pj_wa (F_83x C ((Int8.ofInt 49).toInt32) ((Int8.ofInt 57).toInt32)).2 11 c.toInt.toNat _) 7 1 (.int _)) 7 0 = _
  rw [pj_fi_wv_ne _ _ _ _ _ _ (by decide), pj_fi_wa]
  exact kC.1 (7, 0) (by decide)
theorem tx_fb1_7 {C : pj_G} (iC : pj_Inv C) (c : Int32) (rc : 0 ≤ c.toInt ∧ c.toInt ≤ 9) : pj_Inv (tx_B1_7 c C) ∧ pj_fi (tx_B1_7 c C) 7 1 = c + Int32.ofInt 1 ∧ pj_fi (tx_B1_7 c C) 7 0 = pj_fi C 7 0 := by
  have rb : (0 : Int) ≤ (pj_fi C 7 0).toInt ∧ (pj_fi C 7 0).toInt ≤ 8 := iC.2.1 7 0 (0, 8) rfl
  have cm : (Int32.ofInt (-1)).toInt = -1 := by decide
  have k58 : (((Int8.ofInt 58).toInt32)).toInt = 58 := by decide
  obtain ⟨i1, k1, r1, -⟩ := fr_87x C iC (Int32.ofInt (-1)) (pj_fi C 7 0) (by omega) rb
  have b1 : pj_fi (F_87x C (Int32.ofInt (-1)) (pj_fi C 7 0)).2 7 0 = pj_fi C 7 0 := k1.1 (7, 0) (by decide)
  unfold tx_B1_7
  simp only [pj_nm_x, pj_bd_x]
  generalize (F_87x C (Int32.ofInt (-1)) (pj_fi C 7 0)).2 = C1 at *
  generalize (F_87x C (Int32.ofInt (-1)) (pj_fi C 7 0)).1 = x at *
  have j1 := (tx_ib_7 i1 c.toInt.toNat x (by omega)).1
  have b2 : pj_fi (pj_wa C1 8 c.toInt.toNat x) 7 0 = pj_fi C 7 0 := by rw [pj_fi_wa, b1]
  rw [pj_ai_wa_eq i1.1 rfl, b2]
  obtain ⟨i2, k2, r2, -⟩ := fr_87x (pj_wa C1 8 c.toInt.toNat x) j1 x (pj_fi C 7 0) (by omega) rb
  have b3 : pj_fi (F_87x (pj_wa C1 8 c.toInt.toNat x) x (pj_fi C 7 0)).2 7 0 = pj_fi C 7 0 := by rw [k2.1 (7, 0) (by decide), b2]
  unfold tx_B2_7
  simp only [pj_bd_x]
  generalize (F_87x (pj_wa C1 8 c.toInt.toNat x) x (pj_fi C 7 0)).2 = C2 at *
  generalize (F_87x (pj_wa C1 8 c.toInt.toNat x) x (pj_fi C 7 0)).1 = y at *
  have j2 := (tx_ib_7 i2 c.toInt.toNat y (by omega)).2
  have b4 : pj_fi (pj_wa C2 9 c.toInt.toNat y) 7 0 = pj_fi C 7 0 := by rw [pj_fi_wa, b3]
  generalize pj_wa C2 9 c.toInt.toNat y = C3 at *
  obtain ⟨i3, k3, r3⟩ := fr_86x C3 j2 (Int32.ofInt 2) (by decide)
  have b5 : pj_fi (F_86x C3 (Int32.ofInt 2)).2 7 0 = pj_fi C 7 0 := by rw [k3.1 (7, 0) (by decide), b4]
  unfold tx_B3_7
  simp only [pj_bd_x]
  have j3 := tx_ip_7 i3 c.toInt.toNat (F_86x C3 (Int32.ofInt 2)).1
  have b6 : pj_fi (pj_wa (F_86x C3 (Int32.ofInt 2)).2 10 c.toInt.toNat (F_86x C3 (Int32.ofInt 2)).1) 7 0 = pj_fi C 7 0 := by rw [pj_fi_wa, b5]
  generalize pj_wa (F_86x C3 (Int32.ofInt 2)).2 10 c.toInt.toNat (F_86x C3 (Int32.ofInt 2)).1 = C4 at *
  unfold tx_B4_7
  obtain ⟨i4, k4, -⟩ := fr_83x C4 j3 ((Int8.ofInt 58).toInt32) ((Int8.ofInt 58).toInt32) (by omega) (by omega)
  obtain ⟨f1, f2, f3⟩ := tx_fb5_7 i4 c rc
  exact ⟨f1, f2, by rw [f3, k4.1 (7, 0) (by decide), b6]⟩
theorem tx_dl_7 (C0 : pj_G) {C R : pj_G} (h : tx_ER C R) (f : Nat) (c : Int32) : tx_ER (L_41_7x C0 (f + 1) c C) R := by
  rw [tx_L41_7]
  simp only [pj_bd_x]
  cases pj_c1 .ge c ((Int8.ofInt 10).toInt32) with
  | true =>
    rw [pj_cT]
    exact h
  | false =>
    obtain ⟨i1, v1, e1⟩ := tx_82d h.1 (tx_enb h) ((Int8.ofInt 59).toInt32) (by decide)
    rw [pj_cF, pj_b0_eqT v1, pj_cT]
    exact tx_eC h i1 e1
/-- crossings as they were read, on both sides -/
def tx_cr_7 (C R : pj_G) (i : Nat) : Prop := pj_ai C 8 i = pj_ai R 181 (4 * i) ∧ pj_ai C 9 i = pj_ai R 181 (4 * i + 1) ∧ pj_ai C 10 i = pj_ai R 181 (4 * i + 2) ∧ pj_ai C 11 i = pj_ai R 181 (4 * i + 3)
theorem tx_crk_7 {C R C' R' : pj_G} {i : Nat} (h : tx_cr_7 C R i) (c1 : pj_ai C' 8 i = pj_ai C 8 i) (c2 : pj_ai C' 9 i = pj_ai C 9 i) (c3 : pj_ai C' 10 i = pj_ai C 10 i) (c4 : pj_ai C' 11 i = pj_ai C 11 i) (r : ∀ j, j < 4 * i + 4 → pj_ai R' 181 j = pj_ai R 181 j) : tx_cr_7 C' R' i := by
  obtain ⟨a, b, c, d⟩ := h
  exact ⟨by rw [c1, r _ (by omega)]; exact a, by rw [c2, r _ (by omega)]; exact b, by rw [c3, r _ (by omega)]; exact c, by rw [c4, r _ (by omega)]; exact d⟩
theorem tx_lp_7 (C0 R0 : pj_G) (n : Int32) : ∀ (k N fc fr : Nat) (c is : Int32) (C R : pj_G), tx_RD C R → is.toInt = 1 → pj_fi C 7 0 = pj_fi R 171 21 → (pj_fi R 171 22).toInt = c.toInt → (pj_fi C 7 1).toInt = c.toInt → 0 ≤ c.toInt → (∀ i : Nat, (i : Int) < c.toInt → tx_cr_7 C R i) → c.toInt + k = 10 → k < fc → N + k + 2 ≤ fr → ∃ (g : Nat) (is' : Int32) (R' : pj_G), N ≤ g ∧ pj_kpt mr_RW R R' ∧ L_192tx R0 fr 0 n is 0 0 R = tx_EX R0 g n is' R' ∧ ((is'.toInt = 1 ∧ tx_RD (L_41_7x C0 fc c C) R' ∧ (pj_fi (L_41_7x C0 fc c C) 7 1).toInt = (pj_fi R' 171 22).toInt ∧ pj_fi (L_41_7x C0 fc c C) 7 0 = pj_fi R' 171 21 ∧ (∀ i : Nat, (i : Int) < (pj_fi R' 171 22).toInt → tx_cr_7 (L_41_7x C0 fc c C) R' i)) ∨ (is'.toInt = 0 ∧ tx_ER (L_41_7x C0 fc c C) R')) := by
  have k10 : (((Int8.ofInt 10).toInt32)).toInt = 10 := by decide
  have k59 : (((Int8.ofInt 59).toInt32)).toInt = 59 := by decide
  have k1 : (Int32.ofInt 1).toInt = 1 := by decide
  intro k
  induction k with
  | zero =>
    intro N fc fr c is C R h his hb hm hc c0 dat ck hfc hfr
    obtain ⟨f, rfl⟩ : ∃ q, fc = q + 1 := ⟨fc - 1, by omega⟩
    obtain ⟨g, rfl⟩ : ∃ q, fr = q + 1 := ⟨fr - 1, by omega⟩
    rw [tx_L41_7, tx_L192, pj_b_geT (show (((Int8.ofInt 10).toInt32)).toInt ≤ c.toInt by omega), pj_cT, pj_b0_eqF (show ¬ is.toInt = 0 by omega), pj_cF, pj_b_geT (show (((Int8.ofInt 10).toInt32)).toInt ≤ (pj_fi R 171 22).toInt by omega), pj_cT]
    exact ⟨g, is, R, by omega, pj_kpt_r _ _, rfl, .inl ⟨his, h, by omega, hb, fun i hi => dat i (by omega)⟩⟩
  | succ k ih =>
    intro N fc fr c is C R h his hb hm hc c0 dat ck hfc hfr
    obtain ⟨f, rfl⟩ : ∃ q, fc = q + 1 := ⟨fc - 1, by omega⟩
    obtain ⟨g, rfl⟩ : ∃ q, fr = q + 1 := ⟨fr - 1, by omega⟩
    rw [tx_L41_7, tx_L192, pj_b_geF (show c.toInt < (((Int8.ofInt 10).toInt32)).toInt by omega), pj_cF, pj_b0_eqF (show ¬ is.toInt = 0 by omega), pj_cF, pj_b_geF (show (pj_fi R 171 22).toInt < (((Int8.ofInt 10).toInt32)).toInt by omega), pj_cF]
    simp only [pj_bd_x]
    obtain ⟨e, h2⟩ := tx_skip h ((Int8.ofInt 59).toInt32) (by omega)
    obtain ⟨iC, kC, rC, -⟩ := fr_82x C h.1 ((Int8.ofInt 59).toInt32) (by omega)
    obtain ⟨iR, kR, rR, -⟩ := fr_183x R h.2.1 ((Int8.ofInt 59).toInt32) (by omega)
    have c1 : pj_fi (F_82x C ((Int8.ofInt 59).toInt32)).2 7 1 = pj_fi C 7 1 := kC.1 (7, 1) (by decide)
    have c0' : pj_fi (F_82x C ((Int8.ofInt 59).toInt32)).2 7 0 = pj_fi C 7 0 := kC.1 (7, 0) (by decide)
    have m1 : pj_fi (F_183x R ((Int8.ofInt 59).toInt32)).2 171 22 = pj_fi R 171 22 := kR.1 (171, 22) (by decide)
    have m0 : pj_fi (F_183x R ((Int8.ofInt 59).toInt32)).2 171 21 = pj_fi R 171 21 := kR.1 (171, 21) (by decide)
    have c1' : (pj_fi (F_82x C ((Int8.ofInt 59).toInt32)).2 7 1).toInt = (pj_fi C 7 1).toInt := by rw [c1]
    have m1' : (pj_fi (F_183x R ((Int8.ofInt 59).toInt32)).2 171 22).toInt = (pj_fi R 171 22).toInt := by rw [m1]
    have dat2 : ∀ i : Nat, (i : Int) < c.toInt → tx_cr_7 (F_82x C ((Int8.ofInt 59).toInt32)).2 (F_183x R ((Int8.ofInt 59).toInt32)).2 i := fun i hi => tx_crk_7 (dat i hi) (kC.2.2 8 (by decide) i) (kC.2.2 9 (by decide) i) (kC.2.2 10 (by decide) i) (kC.2.2 11 (by decide) i) (fun j _ => kR.2.2 181 (by decide) j)
    by_cases q : (F_82x C ((Int8.ofInt 59).toInt32)).1.toInt = 0
    · rw [pj_b0_eqT q, pj_cT, pj_b0_eqT (show (F_183x R ((Int8.ofInt 59).toInt32)).1.toInt = 0 by omega), pj_cT]
      exact ⟨g, is, _, by omega, pj_kpt_s kR rfl, rfl, .inl ⟨his, h2, by omega, by rw [c0', m0]; exact hb, fun i hi => dat2 i (by omega)⟩⟩
    · rw [pj_b0_eqF q, pj_cF, pj_b0_eqF (show ¬ (F_183x R ((Int8.ofInt 59).toInt32)).1.toInt = 0 by omega), pj_cF]
      have sc : (c + (Int32.ofInt 1)).toInt = c.toInt + 1 := by rw [pj_addI (by omega) (by omega), k1]
      obtain ⟨-, fb2, fb3⟩ := tx_fb1_7 iC c (by omega)
      have fb2' : (pj_fi (tx_B1_7 c (F_82x C ((Int8.ofInt 59).toInt32)).2) 7 1).toInt = c.toInt + 1 := by rw [fb2, sc]
      obtain ⟨-, k191, -⟩ := fr_191x (F_183x R ((Int8.ofInt 59).toInt32)).2 iR (by omega)
      have kk : pj_kpt mr_RW R (F_191x (F_183x R ((Int8.ofInt 59).toInt32)).2).2 := pj_kpt_t (pj_kpt_s kR rfl) (pj_kpt_s k191 rfl)
      rcases tx_c1_7 h2 c (by omega) (by omega) (by rw [c0', m0]; exact hb) with ⟨t1, t2, t3, t4, t5, t6, t7, t8⟩ | ⟨t1, t2⟩
      · have q4 : (Int32.ofInt 4).toInt = 4 := by decide
        have q2 : (Int32.ofInt 2).toInt = 2 := by decide
        have q3 : (Int32.ofInt 3).toInt = 3 := by decide
        have sz4 : ((Int32.ofInt 4) * pj_fi (F_183x R ((Int8.ofInt 59).toInt32)).2 171 22).toInt = 4 * c.toInt := by rw [pj_mulL q4 (by omega) (by omega)]; omega
        have s1 : ((Int32.ofInt 4) * pj_fi (F_183x R ((Int8.ofInt 59).toInt32)).2 171 22 + Int32.ofInt 1).toInt = 4 * c.toInt + 1 := by rw [pj_addI (by omega) (by omega), sz4, k1]
        have s2 : ((Int32.ofInt 4) * pj_fi (F_183x R ((Int8.ofInt 59).toInt32)).2 171 22 + Int32.ofInt 2).toInt = 4 * c.toInt + 2 := by rw [pj_addI (by omega) (by omega), sz4, q2]
        have s3 : ((Int32.ofInt 4) * pj_fi (F_183x R ((Int8.ofInt 59).toInt32)).2 171 22 + Int32.ofInt 3).toInt = 4 * c.toInt + 3 := by rw [pj_addI (by omega) (by omega), sz4, q3]
        have dat3 : ∀ i : Nat, (i : Int) < (c + Int32.ofInt 1).toInt → tx_cr_7 (tx_B1_7 c (F_82x C ((Int8.ofInt 59).toInt32)).2) (F_191x (F_183x R ((Int8.ofInt 59).toInt32)).2).2 i := by
          intro i hi
          by_cases qi : (i : Int) = c.toInt
          · rw [show ((Int32.ofInt 4) * pj_fi (F_183x R ((Int8.ofInt 59).toInt32)).2 171 22).toInt.toNat = 4 * i by omega, show c.toInt.toNat = i by omega] at t5
            rw [show ((Int32.ofInt 4) * pj_fi (F_183x R ((Int8.ofInt 59).toInt32)).2 171 22 + Int32.ofInt 1).toInt.toNat = 4 * i + 1 by omega, show c.toInt.toNat = i by omega] at t6
            rw [show ((Int32.ofInt 4) * pj_fi (F_183x R ((Int8.ofInt 59).toInt32)).2 171 22 + Int32.ofInt 2).toInt.toNat = 4 * i + 2 by omega, show c.toInt.toNat = i by omega] at t7
            rw [show ((Int32.ofInt 4) * pj_fi (F_183x R ((Int8.ofInt 59).toInt32)).2 171 22 + Int32.ofInt 3).toInt.toNat = 4 * i + 3 by omega, show c.toInt.toNat = i by omega] at t8
            exact ⟨t5, t6, t7, t8⟩
          · obtain ⟨f1, f2, f3, f4⟩ := tx_f1_7 iC c i (by omega)
            exact tx_crk_7 (dat2 i (by omega)) f1 f2 f3 f4 (fun j hj => tx_g0 iR (by omega) j (by omega))
        obtain ⟨g2, is2, R2, z1, z2, z3⟩ := ih N f g (c + Int32.ofInt 1) _ _ _ t2 t1 (by rw [fb3, t4, c0', m0]; exact hb) (by omega) (by omega) (by omega) dat3 (by omega) (by omega) (by omega)
        exact ⟨g2, is2, R2, z1, pj_kpt_t kk z2, z3⟩
      · obtain ⟨f', rfl⟩ : ∃ q, f = q + 1 := ⟨f - 1, by omega⟩
        obtain ⟨g', rfl⟩ : ∃ q, g = q + 1 := ⟨g - 1, by omega⟩
        rw [tx_L192, pj_b0_eqT t1, pj_cT]
        exact ⟨g', _, _, by omega, kk, rfl, .inr ⟨t1, tx_dl_7 C0 t2 f' _⟩⟩
/-- the whole reading, up to where it ends -/
theorem tx_rd_7 {C R : pj_G} (h : tx_RD C R) (n : Int32) (hm : (pj_fi R 171 22).toInt = 0) (R0 : pj_G) : ∃ (g : Nat) (is' : Int32) (R' : pj_G), 20 ≤ g ∧ pj_kpt mr_RW R R' ∧ cond (pj_c1 .le (Int32.ofInt 2 + (F_186_s10x R).1) (Int32.ofInt 1)) (L_192tx R0 2001 0 n (Int32.ofInt 0) 0 0 (pj_wv (F_186_s10x R).2 171 21 (.int (Int32.ofInt 2 + (F_186_s10x R).1)))) (L_192tx R0 2001 0 n (Int32.ofInt 1) 0 0 (pj_wv (F_186_s10x R).2 171 21 (.int (Int32.ofInt 2 + (F_186_s10x R).1)))) = tx_EX R0 g n is' R' ∧ ((is'.toInt = 1 ∧ tx_RD (F_41_7x C) R' ∧ (pj_fi (F_41_7x C) 7 1).toInt = (pj_fi R' 171 22).toInt ∧ pj_fi (F_41_7x C) 7 0 = pj_fi R' 171 21 ∧ (∀ i : Nat, (i : Int) < (pj_fi R' 171 22).toInt → tx_cr_7 (F_41_7x C) R' i)) ∨ (is'.toInt = 0 ∧ tx_ER (F_41_7x C) R')) := by
  have k0 : (Int32.ofInt 0).toInt = 0 := by decide
  have k1 : (Int32.ofInt 1).toInt = 1 := by decide
  have k2 : (Int32.ofInt 2).toInt = 2 := by decide
  have k50 : (((Int8.ofInt 50).toInt32)).toInt = 50 := by decide
  have k56 : (((Int8.ofInt 56).toInt32)).toInt = 56 := by decide
  obtain ⟨iR, kR, rR, -⟩ := fr_186_s10x R h.2.1
  obtain ⟨iC, kC, rC, ⟨rC2, -⟩, -⟩ := fr_83x C h.1 ((Int8.ofInt 50).toInt32) ((Int8.ofInt 56).toInt32) (by omega) (by omega)
  have m22 : pj_fi (F_186_s10x R).2 171 22 = pj_fi R 171 22 := kR.1 (171, 22) (by decide)
  have sr : (Int32.ofInt 2 + (F_186_s10x R).1).toInt = 2 + (F_186_s10x R).1.toInt := by rw [pj_addI (by omega) (by omega), k2]
  have sc : (Int32.ofInt 2 + (F_83x C ((Int8.ofInt 50).toInt32) ((Int8.ofInt 56).toInt32)).1).toInt = 2 + (F_83x C ((Int8.ofInt 50).toInt32) ((Int8.ofInt 56).toInt32)).1.toInt := by rw [pj_addI (by omega) (by omega), k2]
  have i21 := tx_i21 iR (Int32.ofInt 2 + (F_186_s10x R).1) (by omega)
  have j0 : pj_Inv (pj_wv (F_83x C ((Int8.ofInt 50).toInt32) ((Int8.ofInt 56).toInt32)).2 7 0 (.int (Int32.ofInt 2 + (F_83x C ((Int8.ofInt 50).toInt32) ((Int8.ofInt 56).toInt32)).1))) := pj_Inv_wi iC (ci := 5) rfl (fun q hq => by cases hq; exact ⟨by show (0 : Int) ≤ _; omega, by show _ ≤ (8 : Int); omega⟩)
  have j1 := tx_ic_7 j0 (Int32.ofInt 0) (by omega)
  have w22 : pj_fi (pj_wv (F_186_s10x R).2 171 21 (.int (Int32.ofInt 2 + (F_186_s10x R).1))) 171 22 = pj_fi R 171 22 := by rw [pj_fi_wv_ne _ _ _ _ _ _ (by decide), m22]
  have w21 : pj_fi (pj_wv (F_186_s10x R).2 171 21 (.int (Int32.ofInt 2 + (F_186_s10x R).1))) 171 21 = Int32.ofInt 2 + (F_186_s10x R).1 := pj_fi_wi iR.1 (ci := 12) rfl _
  have v0 : pj_fi (pj_wv (pj_wv (F_83x C ((Int8.ofInt 50).toInt32) ((Int8.ofInt 56).toInt32)).2 7 0 (.int (Int32.ofInt 2 + (F_83x C ((Int8.ofInt 50).toInt32) ((Int8.ofInt 56).toInt32)).1))) 7 1 (.int (Int32.ofInt 0))) 7 0 = Int32.ofInt 2 + (F_83x C ((Int8.ofInt 50).toInt32) ((Int8.ofInt 56).toInt32)).1 := by rw [pj_fi_wv_ne _ _ _ _ _ _ (by decide)]; exact pj_fi_wi iC.1 (ci := 5) rfl _
  have v1 : pj_fi (pj_wv (pj_wv (F_83x C ((Int8.ofInt 50).toInt32) ((Int8.ofInt 56).toInt32)).2 7 0 (.int (Int32.ofInt 2 + (F_83x C ((Int8.ofInt 50).toInt32) ((Int8.ofInt 56).toInt32)).1))) 7 1 (.int (Int32.ofInt 0))) 7 1 = Int32.ofInt 0 := pj_fi_wi j0.1 (ci := 5) rfl _
  have eF : F_41_7x C = L_41_7x C 11 (Int32.ofInt 0) (pj_wv (pj_wv (F_83x C ((Int8.ofInt 50).toInt32) ((Int8.ofInt 56).toInt32)).2 7 0 (.int (Int32.ofInt 2 + (F_83x C ((Int8.ofInt 50).toInt32) ((Int8.ofInt 56).toInt32)).1))) 7 1 (.int (Int32.ofInt 0))) := by
    rw [F_41_7x_e]
    simp only [pj_nm_x, pj_bd_x]
  rw [eF]
  have k21 : pj_kpt mr_RW R (pj_wv (F_186_s10x R).2 171 21 (.int (Int32.ofInt 2 + (F_186_s10x R).1))) := pj_kpt_v (pj_kpt_s kR rfl) rfl
  rcases tx_dig8 h with ⟨t1, t2, t3⟩ | ⟨t1, t3⟩
  · rw [pj_b_leF (show (Int32.ofInt 1).toInt < (Int32.ofInt 2 + (F_186_s10x R).1).toInt by omega), pj_cF]
    have eb : Int32.ofInt 2 + (F_83x C ((Int8.ofInt 50).toInt32) ((Int8.ofInt 56).toInt32)).1 = Int32.ofInt 2 + (F_186_s10x R).1 := Int32.toInt_inj.mp (by omega)
    obtain ⟨g2, is2, R2, z1, z2, z3⟩ := tx_lp_7 C R0 n 10 20 11 2001 (Int32.ofInt 0) (Int32.ofInt 1) _ _ (tx_wvC (tx_wvC (tx_wvR t3 i21 (by decide) (by decide)) j0 (by decide)) j1 (by decide)) k1 (by rw [v0, w21, eb]) (by rw [w22, hm]; omega) (by rw [v1]) (by omega) (fun i hi => absurd hi (by omega)) (by omega) (by omega) (by omega)
    exact ⟨g2, is2, R2, z1, pj_kpt_t k21 z2, z3⟩
  · rw [pj_b_leT (show (Int32.ofInt 2 + (F_186_s10x R).1).toInt ≤ (Int32.ofInt 1).toInt by omega), pj_cT, tx_L192 R0 2000, pj_b0_eqT k0, pj_cT]
    exact ⟨2000, _, _, by omega, k21, rfl, .inr ⟨k0, tx_dl_7 C (tx_ewvC (tx_ewvC (tx_ewvR t3 i21 (by decide) (by decide)) j0 (by decide)) j1 (by decide)) 10 _⟩⟩
theorem tx_fb5_14 {C : pj_G} (iC : pj_Inv C) (c : Int32) (rc : 0 ≤ c.toInt ∧ c.toInt ≤ 9) : pj_Inv (tx_B5_14 c C) ∧ pj_fi (tx_B5_14 c C) 14 1 = c + Int32.ofInt 1 ∧ pj_fi (tx_B5_14 c C) 14 0 = pj_fi C 14 0 := by
  have k1 : (((Int8.ofInt 49).toInt32)).toInt = 49 := by decide
  have k2 : (((Int8.ofInt 57).toInt32)).toInt = 57 := by decide
  have k3 : (Int32.ofInt 1).toInt = 1 := by decide
  obtain ⟨i1, kC, r1, ⟨r2, -⟩, -⟩ := fr_83x C iC ((Int8.ofInt 49).toInt32) ((Int8.ofInt 57).toInt32) (by omega) (by omega)
  have s : ((Int32.ofInt 1) + (F_83x C ((Int8.ofInt 49).toInt32) ((Int8.ofInt 57).toInt32)).1).toInt = 1 + (F_83x C ((Int8.ofInt 49).toInt32) ((Int8.ofInt 57).toInt32)).1.toInt := by rw [pj_addI (by omega) (by omega), k3]
  have sc : (c + (Int32.ofInt 1)).toInt = c.toInt + 1 := by rw [pj_addI (by omega) (by omega), k3]
  have j1 := tx_iw_14 i1 c.toInt.toNat ((Int32.ofInt 1) + (F_83x C ((Int8.ofInt 49).toInt32) ((Int8.ofInt 57).toInt32)).1) (by omega)
  refine ⟨tx_ic_14 j1 _ (by omega), pj_fi_wi j1.1 (ci := 5) rfl _, ?_⟩
  show pj_fi (pj_wv (pj_wa (F_83x C ((Int8.ofInt 49).toInt32) ((Int8.ofInt 57).toInt32)).2 18 c.toInt.toNat _) 14 1 (.int _)) 14 0 = _
  rw [pj_fi_wv_ne _ _ _ _ _ _ (by decide), pj_fi_wa]
  exact kC.1 (14, 0) (by decide)
theorem tx_fb1_14 {C : pj_G} (iC : pj_Inv C) (c : Int32) (rc : 0 ≤ c.toInt ∧ c.toInt ≤ 9) : pj_Inv (tx_B1_14 c C) ∧ pj_fi (tx_B1_14 c C) 14 1 = c + Int32.ofInt 1 ∧ pj_fi (tx_B1_14 c C) 14 0 = pj_fi C 14 0 := by
  have rb : (0 : Int) ≤ (pj_fi C 14 0).toInt ∧ (pj_fi C 14 0).toInt ≤ 8 := iC.2.1 14 0 (0, 8) rfl
  have cm : (Int32.ofInt (-1)).toInt = -1 := by decide
  have k58 : (((Int8.ofInt 58).toInt32)).toInt = 58 := by decide
  obtain ⟨i1, k1, r1, -⟩ := fr_87x C iC (Int32.ofInt (-1)) (pj_fi C 14 0) (by omega) rb
  have b1 : pj_fi (F_87x C (Int32.ofInt (-1)) (pj_fi C 14 0)).2 14 0 = pj_fi C 14 0 := k1.1 (14, 0) (by decide)
  unfold tx_B1_14
  simp only [pj_nm_x, pj_bd_x]
  generalize (F_87x C (Int32.ofInt (-1)) (pj_fi C 14 0)).2 = C1 at *
  generalize (F_87x C (Int32.ofInt (-1)) (pj_fi C 14 0)).1 = x at *
  have j1 := (tx_ib_14 i1 c.toInt.toNat x (by omega)).1
  have b2 : pj_fi (pj_wa C1 15 c.toInt.toNat x) 14 0 = pj_fi C 14 0 := by rw [pj_fi_wa, b1]
  rw [pj_ai_wa_eq i1.1 rfl, b2]
  obtain ⟨i2, k2, r2, -⟩ := fr_87x (pj_wa C1 15 c.toInt.toNat x) j1 x (pj_fi C 14 0) (by omega) rb
  have b3 : pj_fi (F_87x (pj_wa C1 15 c.toInt.toNat x) x (pj_fi C 14 0)).2 14 0 = pj_fi C 14 0 := by rw [k2.1 (14, 0) (by decide), b2]
  unfold tx_B2_14
  simp only [pj_bd_x]
  generalize (F_87x (pj_wa C1 15 c.toInt.toNat x) x (pj_fi C 14 0)).2 = C2 at *
  generalize (F_87x (pj_wa C1 15 c.toInt.toNat x) x (pj_fi C 14 0)).1 = y at *
  have j2 := (tx_ib_14 i2 c.toInt.toNat y (by omega)).2
  have b4 : pj_fi (pj_wa C2 16 c.toInt.toNat y) 14 0 = pj_fi C 14 0 := by rw [pj_fi_wa, b3]
  generalize pj_wa C2 16 c.toInt.toNat y = C3 at *
  obtain ⟨i3, k3, r3⟩ := fr_86x C3 j2 (Int32.ofInt 2) (by decide)
  have b5 : pj_fi (F_86x C3 (Int32.ofInt 2)).2 14 0 = pj_fi C 14 0 := by rw [k3.1 (14, 0) (by decide), b4]
  unfold tx_B3_14
  simp only [pj_bd_x]
  have j3 := tx_ip_14 i3 c.toInt.toNat (F_86x C3 (Int32.ofInt 2)).1
  have b6 : pj_fi (pj_wa (F_86x C3 (Int32.ofInt 2)).2 17 c.toInt.toNat (F_86x C3 (Int32.ofInt 2)).1) 14 0 = pj_fi C 14 0 := by rw [pj_fi_wa, b5]
  generalize pj_wa (F_86x C3 (Int32.ofInt 2)).2 17 c.toInt.toNat (F_86x C3 (Int32.ofInt 2)).1 = C4 at *
  unfold tx_B4_14
  obtain ⟨i4, k4, -⟩ := fr_83x C4 j3 ((Int8.ofInt 58).toInt32) ((Int8.ofInt 58).toInt32) (by omega) (by omega)
  obtain ⟨f1, f2, f3⟩ := tx_fb5_14 i4 c rc
  exact ⟨f1, f2, by rw [f3, k4.1 (14, 0) (by decide), b6]⟩
theorem tx_dl_14 (C0 : pj_G) {C R : pj_G} (h : tx_ER C R) (f : Nat) (c : Int32) : tx_ER (L_41_14x C0 (f + 1) c C) R := by
  rw [tx_L41_14]
  simp only [pj_bd_x]
  cases pj_c1 .ge c ((Int8.ofInt 10).toInt32) with
  | true =>
    rw [pj_cT]
    exact h
  | false =>
    obtain ⟨i1, v1, e1⟩ := tx_82d h.1 (tx_enb h) ((Int8.ofInt 59).toInt32) (by decide)
    rw [pj_cF, pj_b0_eqT v1, pj_cT]
    exact tx_eC h i1 e1
/-- crossings as they were read, on both sides -/
def tx_cr_14 (C R : pj_G) (i : Nat) : Prop := pj_ai C 15 i = pj_ai R 181 (4 * i) ∧ pj_ai C 16 i = pj_ai R 181 (4 * i + 1) ∧ pj_ai C 17 i = pj_ai R 181 (4 * i + 2) ∧ pj_ai C 18 i = pj_ai R 181 (4 * i + 3)
theorem tx_crk_14 {C R C' R' : pj_G} {i : Nat} (h : tx_cr_14 C R i) (c1 : pj_ai C' 15 i = pj_ai C 15 i) (c2 : pj_ai C' 16 i = pj_ai C 16 i) (c3 : pj_ai C' 17 i = pj_ai C 17 i) (c4 : pj_ai C' 18 i = pj_ai C 18 i) (r : ∀ j, j < 4 * i + 4 → pj_ai R' 181 j = pj_ai R 181 j) : tx_cr_14 C' R' i := by
  obtain ⟨a, b, c, d⟩ := h
  exact ⟨by rw [c1, r _ (by omega)]; exact a, by rw [c2, r _ (by omega)]; exact b, by rw [c3, r _ (by omega)]; exact c, by rw [c4, r _ (by omega)]; exact d⟩
theorem tx_lp_14 (C0 R0 : pj_G) (n : Int32) : ∀ (k N fc fr : Nat) (c is : Int32) (C R : pj_G), tx_RD C R → is.toInt = 1 → pj_fi C 14 0 = pj_fi R 171 21 → (pj_fi R 171 22).toInt = c.toInt → (pj_fi C 14 1).toInt = c.toInt → 0 ≤ c.toInt → (∀ i : Nat, (i : Int) < c.toInt → tx_cr_14 C R i) → c.toInt + k = 10 → k < fc → N + k + 2 ≤ fr → ∃ (g : Nat) (is' : Int32) (R' : pj_G), N ≤ g ∧ pj_kpt mr_RW R R' ∧ L_192tx R0 fr 0 n is 0 0 R = tx_EX R0 g n is' R' ∧ ((is'.toInt = 1 ∧ tx_RD (L_41_14x C0 fc c C) R' ∧ (pj_fi (L_41_14x C0 fc c C) 14 1).toInt = (pj_fi R' 171 22).toInt ∧ pj_fi (L_41_14x C0 fc c C) 14 0 = pj_fi R' 171 21 ∧ (∀ i : Nat, (i : Int) < (pj_fi R' 171 22).toInt → tx_cr_14 (L_41_14x C0 fc c C) R' i)) ∨ (is'.toInt = 0 ∧ tx_ER (L_41_14x C0 fc c C) R')) := by
  have k10 : (((Int8.ofInt 10).toInt32)).toInt = 10 := by decide
  have k59 : (((Int8.ofInt 59).toInt32)).toInt = 59 := by decide
  have k1 : (Int32.ofInt 1).toInt = 1 := by decide
  intro k
  induction k with
  | zero =>
    intro N fc fr c is C R h his hb hm hc c0 dat ck hfc hfr
    obtain ⟨f, rfl⟩ : ∃ q, fc = q + 1 := ⟨fc - 1, by omega⟩
    obtain ⟨g, rfl⟩ : ∃ q, fr = q + 1 := ⟨fr - 1, by omega⟩
    rw [tx_L41_14, tx_L192, pj_b_geT (show (((Int8.ofInt 10).toInt32)).toInt ≤ c.toInt by omega), pj_cT, pj_b0_eqF (show ¬ is.toInt = 0 by omega), pj_cF, pj_b_geT (show (((Int8.ofInt 10).toInt32)).toInt ≤ (pj_fi R 171 22).toInt by omega), pj_cT]
    exact ⟨g, is, R, by omega, pj_kpt_r _ _, rfl, .inl ⟨his, h, by omega, hb, fun i hi => dat i (by omega)⟩⟩
  | succ k ih =>
    intro N fc fr c is C R h his hb hm hc c0 dat ck hfc hfr
    obtain ⟨f, rfl⟩ : ∃ q, fc = q + 1 := ⟨fc - 1, by omega⟩
    obtain ⟨g, rfl⟩ : ∃ q, fr = q + 1 := ⟨fr - 1, by omega⟩
    rw [tx_L41_14, tx_L192, pj_b_geF (show c.toInt < (((Int8.ofInt 10).toInt32)).toInt by omega), pj_cF, pj_b0_eqF (show ¬ is.toInt = 0 by omega), pj_cF, pj_b_geF (show (pj_fi R 171 22).toInt < (((Int8.ofInt 10).toInt32)).toInt by omega), pj_cF]
    simp only [pj_bd_x]
    obtain ⟨e, h2⟩ := tx_skip h ((Int8.ofInt 59).toInt32) (by omega)
    obtain ⟨iC, kC, rC, -⟩ := fr_82x C h.1 ((Int8.ofInt 59).toInt32) (by omega)
    obtain ⟨iR, kR, rR, -⟩ := fr_183x R h.2.1 ((Int8.ofInt 59).toInt32) (by omega)
    have c1 : pj_fi (F_82x C ((Int8.ofInt 59).toInt32)).2 14 1 = pj_fi C 14 1 := kC.1 (14, 1) (by decide)
    have c0' : pj_fi (F_82x C ((Int8.ofInt 59).toInt32)).2 14 0 = pj_fi C 14 0 := kC.1 (14, 0) (by decide)
    have m1 : pj_fi (F_183x R ((Int8.ofInt 59).toInt32)).2 171 22 = pj_fi R 171 22 := kR.1 (171, 22) (by decide)
    have m0 : pj_fi (F_183x R ((Int8.ofInt 59).toInt32)).2 171 21 = pj_fi R 171 21 := kR.1 (171, 21) (by decide)
    have c1' : (pj_fi (F_82x C ((Int8.ofInt 59).toInt32)).2 14 1).toInt = (pj_fi C 14 1).toInt := by rw [c1]
    have m1' : (pj_fi (F_183x R ((Int8.ofInt 59).toInt32)).2 171 22).toInt = (pj_fi R 171 22).toInt := by rw [m1]
    have dat2 : ∀ i : Nat, (i : Int) < c.toInt → tx_cr_14 (F_82x C ((Int8.ofInt 59).toInt32)).2 (F_183x R ((Int8.ofInt 59).toInt32)).2 i := fun i hi => tx_crk_14 (dat i hi) (kC.2.2 15 (by decide) i) (kC.2.2 16 (by decide) i) (kC.2.2 17 (by decide) i) (kC.2.2 18 (by decide) i) (fun j _ => kR.2.2 181 (by decide) j)
    by_cases q : (F_82x C ((Int8.ofInt 59).toInt32)).1.toInt = 0
    · rw [pj_b0_eqT q, pj_cT, pj_b0_eqT (show (F_183x R ((Int8.ofInt 59).toInt32)).1.toInt = 0 by omega), pj_cT]
      exact ⟨g, is, _, by omega, pj_kpt_s kR rfl, rfl, .inl ⟨his, h2, by omega, by rw [c0', m0]; exact hb, fun i hi => dat2 i (by omega)⟩⟩
    · rw [pj_b0_eqF q, pj_cF, pj_b0_eqF (show ¬ (F_183x R ((Int8.ofInt 59).toInt32)).1.toInt = 0 by omega), pj_cF]
      have sc : (c + (Int32.ofInt 1)).toInt = c.toInt + 1 := by rw [pj_addI (by omega) (by omega), k1]
      obtain ⟨-, fb2, fb3⟩ := tx_fb1_14 iC c (by omega)
      have fb2' : (pj_fi (tx_B1_14 c (F_82x C ((Int8.ofInt 59).toInt32)).2) 14 1).toInt = c.toInt + 1 := by rw [fb2, sc]
      obtain ⟨-, k191, -⟩ := fr_191x (F_183x R ((Int8.ofInt 59).toInt32)).2 iR (by omega)
      have kk : pj_kpt mr_RW R (F_191x (F_183x R ((Int8.ofInt 59).toInt32)).2).2 := pj_kpt_t (pj_kpt_s kR rfl) (pj_kpt_s k191 rfl)
      rcases tx_c1_14 h2 c (by omega) (by omega) (by rw [c0', m0]; exact hb) with ⟨t1, t2, t3, t4, t5, t6, t7, t8⟩ | ⟨t1, t2⟩
      · have q4 : (Int32.ofInt 4).toInt = 4 := by decide
        have q2 : (Int32.ofInt 2).toInt = 2 := by decide
        have q3 : (Int32.ofInt 3).toInt = 3 := by decide
        have sz4 : ((Int32.ofInt 4) * pj_fi (F_183x R ((Int8.ofInt 59).toInt32)).2 171 22).toInt = 4 * c.toInt := by rw [pj_mulL q4 (by omega) (by omega)]; omega
        have s1 : ((Int32.ofInt 4) * pj_fi (F_183x R ((Int8.ofInt 59).toInt32)).2 171 22 + Int32.ofInt 1).toInt = 4 * c.toInt + 1 := by rw [pj_addI (by omega) (by omega), sz4, k1]
        have s2 : ((Int32.ofInt 4) * pj_fi (F_183x R ((Int8.ofInt 59).toInt32)).2 171 22 + Int32.ofInt 2).toInt = 4 * c.toInt + 2 := by rw [pj_addI (by omega) (by omega), sz4, q2]
        have s3 : ((Int32.ofInt 4) * pj_fi (F_183x R ((Int8.ofInt 59).toInt32)).2 171 22 + Int32.ofInt 3).toInt = 4 * c.toInt + 3 := by rw [pj_addI (by omega) (by omega), sz4, q3]
        have dat3 : ∀ i : Nat, (i : Int) < (c + Int32.ofInt 1).toInt → tx_cr_14 (tx_B1_14 c (F_82x C ((Int8.ofInt 59).toInt32)).2) (F_191x (F_183x R ((Int8.ofInt 59).toInt32)).2).2 i := by
          intro i hi
          by_cases qi : (i : Int) = c.toInt
          · rw [show ((Int32.ofInt 4) * pj_fi (F_183x R ((Int8.ofInt 59).toInt32)).2 171 22).toInt.toNat = 4 * i by omega, show c.toInt.toNat = i by omega] at t5
            rw [show ((Int32.ofInt 4) * pj_fi (F_183x R ((Int8.ofInt 59).toInt32)).2 171 22 + Int32.ofInt 1).toInt.toNat = 4 * i + 1 by omega, show c.toInt.toNat = i by omega] at t6
            rw [show ((Int32.ofInt 4) * pj_fi (F_183x R ((Int8.ofInt 59).toInt32)).2 171 22 + Int32.ofInt 2).toInt.toNat = 4 * i + 2 by omega, show c.toInt.toNat = i by omega] at t7
            rw [show ((Int32.ofInt 4) * pj_fi (F_183x R ((Int8.ofInt 59).toInt32)).2 171 22 + Int32.ofInt 3).toInt.toNat = 4 * i + 3 by omega, show c.toInt.toNat = i by omega] at t8
            exact ⟨t5, t6, t7, t8⟩
          · obtain ⟨f1, f2, f3, f4⟩ := tx_f1_14 iC c i (by omega)
            exact tx_crk_14 (dat2 i (by omega)) f1 f2 f3 f4 (fun j hj => tx_g0 iR (by omega) j (by omega))
        obtain ⟨g2, is2, R2, z1, z2, z3⟩ := ih N f g (c + Int32.ofInt 1) _ _ _ t2 t1 (by rw [fb3, t4, c0', m0]; exact hb) (by omega) (by omega) (by omega) dat3 (by omega) (by omega) (by omega)
        exact ⟨g2, is2, R2, z1, pj_kpt_t kk z2, z3⟩
      · obtain ⟨f', rfl⟩ : ∃ q, f = q + 1 := ⟨f - 1, by omega⟩
        obtain ⟨g', rfl⟩ : ∃ q, g = q + 1 := ⟨g - 1, by omega⟩
        rw [tx_L192, pj_b0_eqT t1, pj_cT]
        exact ⟨g', _, _, by omega, kk, rfl, .inr ⟨t1, tx_dl_14 C0 t2 f' _⟩⟩
/-- the whole reading, up to where it ends -/
theorem tx_rd_14 {C R : pj_G} (h : tx_RD C R) (n : Int32) (hm : (pj_fi R 171 22).toInt = 0) (R0 : pj_G) : ∃ (g : Nat) (is' : Int32) (R' : pj_G), 20 ≤ g ∧ pj_kpt mr_RW R R' ∧ cond (pj_c1 .le (Int32.ofInt 2 + (F_186_s10x R).1) (Int32.ofInt 1)) (L_192tx R0 2001 0 n (Int32.ofInt 0) 0 0 (pj_wv (F_186_s10x R).2 171 21 (.int (Int32.ofInt 2 + (F_186_s10x R).1)))) (L_192tx R0 2001 0 n (Int32.ofInt 1) 0 0 (pj_wv (F_186_s10x R).2 171 21 (.int (Int32.ofInt 2 + (F_186_s10x R).1)))) = tx_EX R0 g n is' R' ∧ ((is'.toInt = 1 ∧ tx_RD (F_41_14x C) R' ∧ (pj_fi (F_41_14x C) 14 1).toInt = (pj_fi R' 171 22).toInt ∧ pj_fi (F_41_14x C) 14 0 = pj_fi R' 171 21 ∧ (∀ i : Nat, (i : Int) < (pj_fi R' 171 22).toInt → tx_cr_14 (F_41_14x C) R' i)) ∨ (is'.toInt = 0 ∧ tx_ER (F_41_14x C) R')) := by
  have k0 : (Int32.ofInt 0).toInt = 0 := by decide
  have k1 : (Int32.ofInt 1).toInt = 1 := by decide
  have k2 : (Int32.ofInt 2).toInt = 2 := by decide
  have k50 : (((Int8.ofInt 50).toInt32)).toInt = 50 := by decide
  have k56 : (((Int8.ofInt 56).toInt32)).toInt = 56 := by decide
  obtain ⟨iR, kR, rR, -⟩ := fr_186_s10x R h.2.1
  obtain ⟨iC, kC, rC, ⟨rC2, -⟩, -⟩ := fr_83x C h.1 ((Int8.ofInt 50).toInt32) ((Int8.ofInt 56).toInt32) (by omega) (by omega)
  have m22 : pj_fi (F_186_s10x R).2 171 22 = pj_fi R 171 22 := kR.1 (171, 22) (by decide)
  have sr : (Int32.ofInt 2 + (F_186_s10x R).1).toInt = 2 + (F_186_s10x R).1.toInt := by rw [pj_addI (by omega) (by omega), k2]
  have sc : (Int32.ofInt 2 + (F_83x C ((Int8.ofInt 50).toInt32) ((Int8.ofInt 56).toInt32)).1).toInt = 2 + (F_83x C ((Int8.ofInt 50).toInt32) ((Int8.ofInt 56).toInt32)).1.toInt := by rw [pj_addI (by omega) (by omega), k2]
  have i21 := tx_i21 iR (Int32.ofInt 2 + (F_186_s10x R).1) (by omega)
  have j0 : pj_Inv (pj_wv (F_83x C ((Int8.ofInt 50).toInt32) ((Int8.ofInt 56).toInt32)).2 14 0 (.int (Int32.ofInt 2 + (F_83x C ((Int8.ofInt 50).toInt32) ((Int8.ofInt 56).toInt32)).1))) := pj_Inv_wi iC (ci := 5) rfl (fun q hq => by cases hq; exact ⟨by show (0 : Int) ≤ _; omega, by show _ ≤ (8 : Int); omega⟩)
  have j1 := tx_ic_14 j0 (Int32.ofInt 0) (by omega)
  have w22 : pj_fi (pj_wv (F_186_s10x R).2 171 21 (.int (Int32.ofInt 2 + (F_186_s10x R).1))) 171 22 = pj_fi R 171 22 := by rw [pj_fi_wv_ne _ _ _ _ _ _ (by decide), m22]
  have w21 : pj_fi (pj_wv (F_186_s10x R).2 171 21 (.int (Int32.ofInt 2 + (F_186_s10x R).1))) 171 21 = Int32.ofInt 2 + (F_186_s10x R).1 := pj_fi_wi iR.1 (ci := 12) rfl _
  have v0 : pj_fi (pj_wv (pj_wv (F_83x C ((Int8.ofInt 50).toInt32) ((Int8.ofInt 56).toInt32)).2 14 0 (.int (Int32.ofInt 2 + (F_83x C ((Int8.ofInt 50).toInt32) ((Int8.ofInt 56).toInt32)).1))) 14 1 (.int (Int32.ofInt 0))) 14 0 = Int32.ofInt 2 + (F_83x C ((Int8.ofInt 50).toInt32) ((Int8.ofInt 56).toInt32)).1 := by rw [pj_fi_wv_ne _ _ _ _ _ _ (by decide)]; exact pj_fi_wi iC.1 (ci := 5) rfl _
  have v1 : pj_fi (pj_wv (pj_wv (F_83x C ((Int8.ofInt 50).toInt32) ((Int8.ofInt 56).toInt32)).2 14 0 (.int (Int32.ofInt 2 + (F_83x C ((Int8.ofInt 50).toInt32) ((Int8.ofInt 56).toInt32)).1))) 14 1 (.int (Int32.ofInt 0))) 14 1 = Int32.ofInt 0 := pj_fi_wi j0.1 (ci := 5) rfl _
  have eF : F_41_14x C = L_41_14x C 11 (Int32.ofInt 0) (pj_wv (pj_wv (F_83x C ((Int8.ofInt 50).toInt32) ((Int8.ofInt 56).toInt32)).2 14 0 (.int (Int32.ofInt 2 + (F_83x C ((Int8.ofInt 50).toInt32) ((Int8.ofInt 56).toInt32)).1))) 14 1 (.int (Int32.ofInt 0))) := by
    rw [F_41_14x_e]
    simp only [pj_nm_x, pj_bd_x]
  rw [eF]
  have k21 : pj_kpt mr_RW R (pj_wv (F_186_s10x R).2 171 21 (.int (Int32.ofInt 2 + (F_186_s10x R).1))) := pj_kpt_v (pj_kpt_s kR rfl) rfl
  rcases tx_dig8 h with ⟨t1, t2, t3⟩ | ⟨t1, t3⟩
  · rw [pj_b_leF (show (Int32.ofInt 1).toInt < (Int32.ofInt 2 + (F_186_s10x R).1).toInt by omega), pj_cF]
    have eb : Int32.ofInt 2 + (F_83x C ((Int8.ofInt 50).toInt32) ((Int8.ofInt 56).toInt32)).1 = Int32.ofInt 2 + (F_186_s10x R).1 := Int32.toInt_inj.mp (by omega)
    obtain ⟨g2, is2, R2, z1, z2, z3⟩ := tx_lp_14 C R0 n 10 20 11 2001 (Int32.ofInt 0) (Int32.ofInt 1) _ _ (tx_wvC (tx_wvC (tx_wvR t3 i21 (by decide) (by decide)) j0 (by decide)) j1 (by decide)) k1 (by rw [v0, w21, eb]) (by rw [w22, hm]; omega) (by rw [v1]) (by omega) (fun i hi => absurd hi (by omega)) (by omega) (by omega) (by omega)
    exact ⟨g2, is2, R2, z1, pj_kpt_t k21 z2, z3⟩
  · rw [pj_b_leT (show (Int32.ofInt 2 + (F_186_s10x R).1).toInt ≤ (Int32.ofInt 1).toInt by omega), pj_cT, tx_L192 R0 2000, pj_b0_eqT k0, pj_cT]
    exact ⟨2000, _, _, by omega, k21, rfl, .inr ⟨k0, tx_dl_14 C (tx_ewvC (tx_ewvC (tx_ewvR t3 i21 (by decide) (by decide)) j0 (by decide)) j1 (by decide)) 10 _⟩⟩
