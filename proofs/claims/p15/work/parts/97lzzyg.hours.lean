/-! AN HOUR GOES BY, ON BOTH SIDES -/
noncomputable def mr_h1 (G : pj_G) (n : Nat) (v : Int32) : pj_G := cond (pj_c1 .le (pj_ai G 179 (4 * n + 1)) 0) G (cond (pj_c1 .ne (pj_ai G 179 (4 * n + 1) - Int32.ofInt 1) 0) (pj_wv (pj_wa G 179 (4 * n + 1) (pj_ai G 179 (4 * n + 1) - Int32.ofInt 1)) 171 33 (.int (pj_fi G 171 33 ||| Int32.ofInt 0))) (pj_wv (pj_wa G 179 (4 * n + 1) (pj_ai G 179 (4 * n + 1) - Int32.ofInt 1)) 171 33 (.int (pj_fi G 171 33 ||| (Int32.ofInt 1 <<< (v &&& 31))))))
noncomputable def mr_h3 (G : pj_G) (b d : Int32) : pj_G := pj_wa (pj_wv (pj_wv G 171 34 (.int (pj_fi G 171 34 ||| b))) 171 35 (.int (pj_fi G 171 35 + d))) 179 31 (pj_ai G 179 31 + d)
noncomputable def mr_h2 (G : pj_G) (n : Nat) (v : Int32) : pj_G := cond (pj_c1 .ne (pj_ai G 179 (4 * n + 2)) (pj_ai G 179 30)) G (cond (pj_c1 .ge (pj_ai G 179 (4 * n)) 0) (mr_h3 (pj_wa G 179 (4 * n + 2) (Int32.ofInt (-1))) (Int32.ofInt 1 <<< (v &&& 31)) (Int32.ofInt 1)) (cond (pj_c1 .ne (pj_ai G 179 (4 * n + 1)) 0) (mr_h3 (pj_wa G 179 (4 * n + 2) (Int32.ofInt (-1))) (Int32.ofInt 1 <<< (v &&& 31)) (Int32.ofInt 1)) (mr_h3 (pj_wa G 179 (4 * n + 2) (Int32.ofInt (-1))) (Int32.ofInt 0) (Int32.ofInt 0))))
theorem mr_225s (G0 : pj_G) (fu : Nat) (v : Int32) (n : Nat) (hn : v.toInt = (n : Int)) (h6 : n < 6) {G : pj_G} (hS : pj_coks pj_tb G.1 = true) : L_225x G0 (fu + 1) v G = cond (pj_c1 .ge v (pj_fi G 171 5)) G (L_225x G0 fu (v + Int32.ofInt 1) (mr_h2 (mr_h1 G n v) n v)) := by
  obtain ⟨x0, x1, x2, -⟩ := mr_ix hn (by omega)
  have b30 : (((Int8.ofInt 30).toInt32)).toInt.toNat = 30 := by decide
  have b31 : (((Int8.ofInt 31).toInt32)).toInt.toNat = 31 := by decide
  have f0 : ∀ X, F_173x X (Int32.ofInt 0) = Int32.ofInt 0 := fun X => (mr_173 X).1
  have f1 : ∀ X, F_173x X (Int32.ofInt 1) = Int32.ofInt 1 := fun X => (mr_173 X).2
  have ea : ∀ x, pj_ai (pj_wa G 179 (4 * n + 1) x) 179 (4 * n + 1) = x := fun x => pj_ai_wa_eq hS rfl
  have w1 : ∀ (X : pj_G) (j : Nat) (x : Int32) (k : Nat), pj_fi (pj_wa X 179 j x) 171 k = pj_fi X 171 k := fun X j x k => pj_fi_wa _ _ _ _ _ _
  have w2 : ∀ (X : pj_G) (k : Nat) (x : Value) (j : Nat), pj_ai (pj_wv X 171 k x) 179 j = pj_ai X 179 j := fun X k x j => pj_ai_wv _ _ _ _ _ _
  have w3 : ∀ (X : pj_G) (x : Value), pj_fi (pj_wv X 171 33 x) 171 34 = pj_fi X 171 34 := fun X x => pj_fi_wv_ne _ _ _ _ _ _ (by decide)
  have w4 : ∀ (X : pj_G) (x : Value), pj_fi (pj_wv X 171 34 x) 171 35 = pj_fi X 171 35 := fun X x => pj_fi_wv_ne _ _ _ _ _ _ (by decide)
  have w5 : ∀ (X : pj_G) (x : Value), pj_fi (pj_wv X 171 33 x) 171 35 = pj_fi X 171 35 := fun X x => pj_fi_wv_ne _ _ _ _ _ _ (by decide)
  have a1 : ∀ (X : pj_G) (x : Int32), pj_ai (pj_wa X 179 (4 * n + 1) x) 179 (4 * n + 2) = pj_ai X 179 (4 * n + 2) := fun X x => pj_ai_wa_nj _ _ _ _ _ (by omega)
  have a2 : ∀ (X : pj_G) (x : Int32), pj_ai (pj_wa X 179 (4 * n + 1) x) 179 30 = pj_ai X 179 30 := fun X x => pj_ai_wa_nj _ _ _ _ _ (by omega)
  have a3 : ∀ (X : pj_G) (x : Int32), pj_ai (pj_wa X 179 (4 * n + 2) x) 179 (4 * n) = pj_ai X 179 (4 * n) := fun X x => pj_ai_wa_nj _ _ _ _ _ (by omega)
  have a4 : ∀ (X : pj_G) (x : Int32), pj_ai (pj_wa X 179 (4 * n + 2) x) 179 (4 * n + 1) = pj_ai X 179 (4 * n + 1) := fun X x => pj_ai_wa_nj _ _ _ _ _ (by omega)
  have a5 : ∀ (X : pj_G) (x : Int32), pj_ai (pj_wa X 179 (4 * n + 1) x) 179 (4 * n) = pj_ai X 179 (4 * n) := fun X x => pj_ai_wa_nj _ _ _ _ _ (by omega)
  rw [L_225x_s0]
  simp only [pj_nm_x, x0, x1, x2, b30, b31, f0, f1, ea, w1, w2, w3, w4]
  cases pj_c1 .ge v (pj_fi G 171 5) with
  | true => simp only [pj_cTx]
  | false =>
    simp only [pj_cFx]
    unfold mr_h2 mr_h1 mr_h3
    cases pj_c1 .le (pj_ai G 179 (4 * n + 1)) 0 with
    | true =>
      simp only [pj_cTx, w1, w2, w3, w4, w5, a3, a4]
      cases pj_c1 .ne (pj_ai G 179 (4 * n + 2)) (pj_ai G 179 30) with
      | true => simp only [pj_cTx]
      | false =>
        simp only [pj_cFx]
        cases pj_c1 .ge (pj_ai G 179 (4 * n)) 0 with
        | true => simp only [pj_cTx]
        | false =>
          simp only [pj_cFx]
          cases pj_c1 .ne (pj_ai G 179 (4 * n + 1)) 0 with
          | true => simp only [pj_cTx]
          | false => simp only [pj_cFx]
    | false =>
      simp only [pj_cFx]
      cases pj_c1 .ne (pj_ai G 179 (4 * n + 1) - Int32.ofInt 1) 0 with
      | true =>
        simp only [pj_cTx, w1, w2, w3, w4, w5, a1, a2, a3, a4, a5, ea]
        cases pj_c1 .ne (pj_ai G 179 (4 * n + 2)) (pj_ai G 179 30) with
        | true => simp only [pj_cTx]
        | false =>
          simp only [pj_cFx]
          cases pj_c1 .ge (pj_ai G 179 (4 * n)) 0 with
          | true => simp only [pj_cTx]
          | false =>
            simp only [pj_cFx]
            cases pj_c1 .ne (pj_ai G 179 (4 * n + 1) - Int32.ofInt 1) 0 with
            | true => simp only [pj_cTx]
            | false => simp only [pj_cFx]
      | false =>
        simp only [pj_cFx, w1, w2, w3, w4, w5, a1, a2, a3, a4, a5, ea]
        cases pj_c1 .ne (pj_ai G 179 (4 * n + 2)) (pj_ai G 179 30) with
        | true => simp only [pj_cTx]
        | false =>
          simp only [pj_cFx]
          cases pj_c1 .ge (pj_ai G 179 (4 * n)) 0 with
          | true => simp only [pj_cTx]
          | false =>
            simp only [pj_cFx]
            cases pj_c1 .ne (pj_ai G 179 (4 * n + 1) - Int32.ofInt 1) 0 with
            | true => simp only [pj_cTx]
            | false => simp only [pj_cFx]
/-- an hour less yet -/
def mr_yl (y : Int32) : Int32 := cond (pj_c1 .le y 0) y (y - Int32.ofInt 1)
/-- who came -/
def mr_cm (y : Nat → Int32) : Nat → Nat → Int32 → Int32
  | 0, _, x => x
  | m + 1, v, x => mr_cm y m (v + 1) (cond (pj_c1 .le (y v) 0) x (cond (pj_c1 .ne (y v - Int32.ofInt 1) 0) (x ||| Int32.ofInt 0) (x ||| (Int32.ofInt 1 <<< (Int32.ofInt v &&& 31)))))
/-- whose promises were broken, how many -/
def mr_bk (l : Nat → Int32) (hm : Nat → Bool) (N : Int32) : Nat → Nat → Int32 → Int32
  | 0, _, x => x
  | m + 1, v, x => mr_bk l hm N m (v + 1) (cond (pj_c1 .ne (l v) N) x (cond (hm v) x (x ||| (Int32.ofInt 1 <<< (Int32.ofInt v &&& 31)))))
def mr_bn (l : Nat → Int32) (hm : Nat → Bool) (N : Int32) : Nat → Nat → Int32 → Int32
  | 0, _, x => x
  | m + 1, v, x => mr_bn l hm N m (v + 1) (cond (pj_c1 .ne (l v) N) x (cond (hm v) x (x + Int32.ofInt 1)))
theorem mr_cmc {y y' : Nat → Int32} : ∀ (m v : Nat) (x : Int32), (∀ j, v ≤ j → j < v + m → y j = y' j) → mr_cm y m v x = mr_cm y' m v x
  | 0, _, _, _ => rfl
  | m + 1, v, x, h => by
    show mr_cm y m (v + 1) _ = mr_cm y' m (v + 1) _
    rw [h v (by omega) (by omega)]
    exact mr_cmc m (v + 1) _ (fun j h1 h2 => h j (by omega) (by omega))
theorem mr_bkc {l l' : Nat → Int32} {hm hm' : Nat → Bool} {N : Int32} : ∀ (m v : Nat) (x : Int32), (∀ j, v ≤ j → j < v + m → l j = l' j ∧ hm j = hm' j) → mr_bk l hm N m v x = mr_bk l' hm' N m v x ∧ ∀ z, mr_bn l hm N m v z = mr_bn l' hm' N m v z
  | 0, _, _, _ => ⟨rfl, fun _ => rfl⟩
  | m + 1, v, x, h => by
    obtain ⟨h1, h2⟩ := h v (by omega) (by omega)
    refine ⟨?_, fun z => ?_⟩
    · show mr_bk l hm N m (v + 1) _ = mr_bk l' hm' N m (v + 1) _
      rw [h1, h2]
      exact (mr_bkc m (v + 1) _ (fun j h3 h4 => h j (by omega) (by omega))).1
    · show mr_bn l hm N m (v + 1) _ = mr_bn l' hm' N m (v + 1) _
      rw [h1, h2]
      exact (mr_bkc m (v + 1) x (fun j h3 h4 => h j (by omega) (by omega))).2 _
theorem mr_ofv {v : Int32} {n : Nat} (hn : v.toInt = (n : Int)) : Int32.ofInt n = v := by
  rw [← hn]
  exact Int32.ofInt_toInt v
/-- the class's first loop -/
theorem mr_106l (C0 : pj_G) (N : Nat) (N6 : N ≤ 6) : ∀ (m fu v : Nat) (w : Int32) (C : pj_G), pj_coks pj_tb C.1 = true → (pj_fi C 21 0).toInt = (N : Int) → w.toInt = (v : Int) → v + m = N → m < fu → ∃ V : pj_G, L_106x C0 fu w C = V ∧ pj_coks pj_tb V.1 = true ∧ (∀ a k, ¬ (a = 6 ∧ k = 7) → pj_fi V a k = pj_fi C a k) ∧ (∀ a j, a ≠ 23 → pj_ai V a j = pj_ai C a j) ∧ (∀ j, v ≤ j → j < N → pj_ai V 23 j = mr_yl (pj_ai C 23 j)) ∧ (∀ j, j < v → pj_ai V 23 j = pj_ai C 23 j) ∧ pj_fi V 6 7 = mr_cm (pj_ai C 23) m v (pj_fi C 6 7) := by
  have k1 : (Int32.ofInt 1).toInt = 1 := by decide
  intro m
  induction m with
  | zero =>
    intro fu v w C hS hN hw hm hf
    obtain ⟨g, rfl⟩ : ∃ q, fu = q + 1 := ⟨fu - 1, by omega⟩
    rw [L_106x_s0]
    simp only [pj_nm_x]
    rw [pj_b_geT (show (pj_fi C 21 0).toInt ≤ w.toInt by omega), pj_cT]
    exact ⟨C, rfl, hS, fun _ _ _ => rfl, fun _ _ _ => rfl, fun j h1 h2 => absurd h2 (by omega), fun _ _ => rfl, rfl⟩
  | succ m ih =>
    intro fu v w C hS hN hw hm hf
    obtain ⟨g, rfl⟩ : ∃ q, fu = q + 1 := ⟨fu - 1, by omega⟩
    have wn : w.toInt.toNat = v := by omega
    have s : (w + Int32.ofInt 1).toInt = ((v + 1 : Nat) : Int) := by rw [pj_addI (by omega) (by omega), k1]; omega
    have ea : ∀ x, pj_ai (pj_wa C 23 v x) 23 v = x := fun x => pj_ai_wa_eq hS rfl
    have w1 : ∀ (X : pj_G) (j : Nat) (x : Int32) (a k : Nat), pj_fi (pj_wa X 23 j x) a k = pj_fi X a k := fun X j x a k => pj_fi_wa _ _ _ _ _ _
    rw [L_106x_s0]
    simp only [pj_nm_x, wn, ea, w1]
    rw [pj_b_geF (show w.toInt < (pj_fi C 21 0).toInt by omega), pj_cF]
    by_cases q : (pj_ai C 23 v).toInt ≤ 0
    · rw [pj_b0_leT q, pj_cT]
      obtain ⟨V, z1, z2, z3, z4, z5, z6, z7⟩ := ih g (v + 1) (w + Int32.ofInt 1) C hS hN s (by omega) (by omega)
      refine ⟨V, z1, z2, z3, z4, fun j h1 h2 => ?_, fun j hj => z6 j (by omega), ?_⟩
      · by_cases e : j = v
        · subst e
          rw [z6 _ (by omega)]
          unfold mr_yl
          rw [pj_b0_leT q, pj_cT]
        · exact z5 j (by omega) h2
      · rw [z7]
        show _ = mr_cm (pj_ai C 23) m (v + 1) _
        rw [pj_b0_leT q, pj_cT]
    · rw [pj_b0_leF (show 0 < (pj_ai C 23 v).toInt by omega), pj_cF]
      have key : ∀ x : Int32, (mr_cm (pj_ai C 23) (m + 1) v (pj_fi C 6 7) = mr_cm (pj_ai C 23) m (v + 1) x) → ∃ V : pj_G, L_106x C0 g (w + Int32.ofInt 1) (pj_wv (pj_wa C 23 v (pj_ai C 23 v - Int32.ofInt 1)) 6 7 (.int x)) = V ∧ pj_coks pj_tb V.1 = true ∧ (∀ a k, ¬ (a = 6 ∧ k = 7) → pj_fi V a k = pj_fi C a k) ∧ (∀ a j, a ≠ 23 → pj_ai V a j = pj_ai C a j) ∧ (∀ j, v ≤ j → j < N → pj_ai V 23 j = mr_yl (pj_ai C 23 j)) ∧ (∀ j, j < v → pj_ai V 23 j = pj_ai C 23 j) ∧ pj_fi V 6 7 = mr_cm (pj_ai C 23) (m + 1) v (pj_fi C 6 7) := by
        intro x hx
        have sa := mr_sa hS (a := 23) rfl v (pj_ai C 23 v - Int32.ofInt 1)
        have sv := mr_sv sa (a := 6) (ci := 10) (k := 7) rfl x
        obtain ⟨V, z1, z2, z3, z4, z5, z6, z7⟩ := ih g (v + 1) (w + Int32.ofInt 1) (pj_wv (pj_wa C 23 v (pj_ai C 23 v - Int32.ofInt 1)) 6 7 (.int x)) sv (by rw [pj_fi_wv_ne _ _ _ _ _ _ (by decide), pj_fi_wa]; exact hN) s (by omega) (by omega)
        have rd : ∀ j, j ≠ v → pj_ai (pj_wv (pj_wa C 23 v (pj_ai C 23 v - Int32.ofInt 1)) 6 7 (.int x)) 23 j = pj_ai C 23 j := fun j hj => (pj_ai_wv _ _ _ _ _ _).trans (pj_ai_wa_nj _ _ _ _ _ hj)
        refine ⟨V, z1, z2, fun a k h => (z3 a k h).trans ((pj_fi_wv_ne _ _ _ _ _ _ h).trans (pj_fi_wa _ _ _ _ _ _)), fun a j h => (z4 a j h).trans ((pj_ai_wv _ _ _ _ _ _).trans (pj_ai_wa_ne _ _ _ _ _ _ h)), fun j h1 h2 => ?_, fun j hj => (z6 j (by omega)).trans (rd j (by omega)), ?_⟩
        · by_cases e : j = v
          · subst e
            rw [z6 _ (by omega), pj_ai_wv, pj_ai_wa_eq hS rfl]
            unfold mr_yl
            rw [pj_b0_leF (show 0 < (pj_ai C 23 j).toInt by omega), pj_cF]
          · rw [z5 j (by omega) h2, rd j e]
        · rw [z7, pj_fi_wi sa (a := 6) (ci := 10) (k := 7) rfl, hx]
          exact mr_cmc m (v + 1) x (fun j h1 h2 => rd j (by omega))
      have head : mr_cm (pj_ai C 23) (m + 1) v (pj_fi C 6 7) = mr_cm (pj_ai C 23) m (v + 1) (cond (pj_c1 .ne (pj_ai C 23 v - Int32.ofInt 1) 0) (pj_fi C 6 7 ||| Int32.ofInt 0) (pj_fi C 6 7 ||| (Int32.ofInt 1 <<< (Int32.ofInt v &&& 31)))) := by
        show mr_cm (pj_ai C 23) m (v + 1) (cond (pj_c1 .le (pj_ai C 23 v) 0) (pj_fi C 6 7) _) = _
        rw [pj_b0_leF (show 0 < (pj_ai C 23 v).toInt by omega), pj_cF]
      rw [mr_ofv hw] at head
      cases q2 : pj_c1 .ne (pj_ai C 23 v - Int32.ofInt 1) 0 with
      | true =>
        rw [q2, pj_cT] at head
        rw [pj_cT]
        exact key _ head
      | false =>
        rw [q2, pj_cF] at head
        rw [pj_cF]
        exact key _ head
def mr_hc (w y : Nat → Int32) (j : Nat) : Bool := !(pj_c1 .ne (w j) (Int32.ofInt (-1))) && pj_c1 .le (y j) 0
def mr_hr (w y : Nat → Int32) (j : Nat) : Bool := !(pj_c1 .ge (w j) 0) && !(pj_c1 .ne (y j) 0)
/-- the class's second loop -/
theorem mr_107l (C0 : pj_G) (N : Nat) (N6 : N ≤ 6) : ∀ (m fu v : Nat) (w : Int32) (C : pj_G), pj_coks pj_tb C.1 = true → (pj_fi C 21 0).toInt = (N : Int) → w.toInt = (v : Int) → v + m = N → m < fu → ∃ V : pj_G, L_107x C0 fu w C = V ∧ pj_coks pj_tb V.1 = true ∧ (∀ a k, ¬ (a = 6 ∧ k = 8) → ¬ (a = 21 ∧ k = 8) → pj_fi V a k = pj_fi C a k) ∧ (∀ a j, a ≠ 25 → pj_ai V a j = pj_ai C a j) ∧ (∀ j, v ≤ j → j < N → pj_ai V 25 j = cond (pj_c1 .ne (pj_ai C 25 j) (pj_fi C 21 7)) (pj_ai C 25 j) (Int32.ofInt (-1))) ∧ (∀ j, j < v → pj_ai V 25 j = pj_ai C 25 j) ∧ pj_fi V 6 8 = mr_bk (pj_ai C 25) (mr_hc (pj_ai C 22) (pj_ai C 23)) (pj_fi C 21 7) m v (pj_fi C 6 8) ∧ pj_fi V 21 8 = mr_bn (pj_ai C 25) (mr_hc (pj_ai C 22) (pj_ai C 23)) (pj_fi C 21 7) m v (pj_fi C 21 8) := by
  have k1 : (Int32.ofInt 1).toInt = 1 := by decide
  intro m
  induction m with
  | zero =>
    intro fu v w C hS hN hw hm hf
    obtain ⟨g, rfl⟩ : ∃ q, fu = q + 1 := ⟨fu - 1, by omega⟩
    rw [L_107x_s0]
    simp only [pj_nm_x]
    rw [pj_b_geT (show (pj_fi C 21 0).toInt ≤ w.toInt by omega), pj_cT]
    exact ⟨C, rfl, hS, fun _ _ _ _ => rfl, fun _ _ _ => rfl, fun j h1 h2 => absurd h2 (by omega), fun _ _ => rfl, rfl, rfl⟩
  | succ m ih =>
    intro fu v w C hS hN hw hm hf
    obtain ⟨g, rfl⟩ : ∃ q, fu = q + 1 := ⟨fu - 1, by omega⟩
    have wn : w.toInt.toNat = v := by omega
    have s : (w + Int32.ofInt 1).toInt = ((v + 1 : Nat) : Int) := by rw [pj_addI (by omega) (by omega), k1]; omega
    have w2 : ∀ (X : pj_G) (j : Nat) (x : Int32) (i : Nat), pj_ai (pj_wa X 25 j x) 22 i = pj_ai X 22 i := fun X j x i => pj_ai_wa_ne _ _ _ _ _ _ (by decide)
    have w3 : ∀ (X : pj_G) (j : Nat) (x : Int32) (i : Nat), pj_ai (pj_wa X 25 j x) 23 i = pj_ai X 23 i := fun X j x i => pj_ai_wa_ne _ _ _ _ _ _ (by decide)
    have w1 : ∀ (X : pj_G) (j : Nat) (x : Int32) (a k : Nat), pj_fi (pj_wa X 25 j x) a k = pj_fi X a k := fun X j x a k => pj_fi_wa _ _ _ _ _ _
    have w4 : ∀ (X : pj_G) (x : Value), pj_fi (pj_wv X 21 8 x) 6 8 = pj_fi X 6 8 := fun X x => pj_fi_wv_ne _ _ _ _ _ _ (by decide)
    rw [L_107x_s0]
    simp only [pj_nm_x, wn, w1, w2, w3, w4]
    rw [pj_b_geF (show w.toInt < (pj_fi C 21 0).toInt by omega), pj_cF]
    cases q : pj_c1 .ne (pj_ai C 25 v) (pj_fi C 21 7) with
    | true =>
      rw [pj_cT]
      obtain ⟨V, z1, z2, z3, z4, z5, z6, z7, z8⟩ := ih g (v + 1) (w + Int32.ofInt 1) C hS hN s (by omega) (by omega)
      refine ⟨V, z1, z2, z3, z4, fun j h1 h2 => ?_, fun j hj => z6 j (by omega), ?_, ?_⟩
      · by_cases e : j = v
        · subst e
          rw [z6 _ (by omega), q, pj_cT]
        · exact z5 j (by omega) h2
      · rw [z7]
        show _ = mr_bk _ _ _ m (v + 1) _
        rw [q, pj_cT]
      · rw [z8]
        show _ = mr_bn _ _ _ m (v + 1) _
        rw [q, pj_cT]
    | false =>
      rw [pj_cF]
      have sa := mr_sa hS (a := 25) rfl v (Int32.ofInt (-1))
      have key : ∀ (X : pj_G) (x8 x21 : Int32), pj_coks pj_tb X.1 = true → (∀ a k, ¬ (a = 6 ∧ k = 8) → ¬ (a = 21 ∧ k = 8) → pj_fi X a k = pj_fi C a k) → (∀ a j, pj_ai X a j = pj_ai (pj_wa C 25 v (Int32.ofInt (-1))) a j) → pj_fi X 6 8 = x8 → pj_fi X 21 8 = x21 → mr_bk (pj_ai C 25) (mr_hc (pj_ai C 22) (pj_ai C 23)) (pj_fi C 21 7) (m + 1) v (pj_fi C 6 8) = mr_bk (pj_ai C 25) (mr_hc (pj_ai C 22) (pj_ai C 23)) (pj_fi C 21 7) m (v + 1) x8 → mr_bn (pj_ai C 25) (mr_hc (pj_ai C 22) (pj_ai C 23)) (pj_fi C 21 7) (m + 1) v (pj_fi C 21 8) = mr_bn (pj_ai C 25) (mr_hc (pj_ai C 22) (pj_ai C 23)) (pj_fi C 21 7) m (v + 1) x21 → ∃ V : pj_G, L_107x C0 g (w + Int32.ofInt 1) X = V ∧ pj_coks pj_tb V.1 = true ∧ (∀ a k, ¬ (a = 6 ∧ k = 8) → ¬ (a = 21 ∧ k = 8) → pj_fi V a k = pj_fi C a k) ∧ (∀ a j, a ≠ 25 → pj_ai V a j = pj_ai C a j) ∧ (∀ j, v ≤ j → j < N → pj_ai V 25 j = cond (pj_c1 .ne (pj_ai C 25 j) (pj_fi C 21 7)) (pj_ai C 25 j) (Int32.ofInt (-1))) ∧ (∀ j, j < v → pj_ai V 25 j = pj_ai C 25 j) ∧ pj_fi V 6 8 = mr_bk (pj_ai C 25) (mr_hc (pj_ai C 22) (pj_ai C 23)) (pj_fi C 21 7) (m + 1) v (pj_fi C 6 8) ∧ pj_fi V 21 8 = mr_bn (pj_ai C 25) (mr_hc (pj_ai C 22) (pj_ai C 23)) (pj_fi C 21 7) (m + 1) v (pj_fi C 21 8) := by
        intro X x8 x21 sX fX aX e8 e21 hk hn
        have n7 : pj_fi X 21 7 = pj_fi C 21 7 := fX 21 7 (by decide) (by decide)
        have rd : ∀ a j, ¬ (a = 25 ∧ j = v) → pj_ai X a j = pj_ai C a j := fun a j h => by
          rw [aX]
          by_cases ha : a = 25
          · subst ha
            exact pj_ai_wa_nj _ _ _ _ _ (fun z => h ⟨rfl, z⟩)
          · exact pj_ai_wa_ne _ _ _ _ _ _ ha
        obtain ⟨V, z1, z2, z3, z4, z5, z6, z7, z8⟩ := ih g (v + 1) (w + Int32.ofInt 1) X sX (by rw [fX 21 0 (by decide) (by decide)]; exact hN) s (by omega) (by omega)
        have cg := fun x => mr_bkc (l := pj_ai X 25) (l' := pj_ai C 25) (hm := mr_hc (pj_ai X 22) (pj_ai X 23)) (hm' := mr_hc (pj_ai C 22) (pj_ai C 23)) (N := pj_fi C 21 7) m (v + 1) x (fun j h1 h2 => ⟨rd 25 j (fun z => absurd z.2 (by omega)), by unfold mr_hc; rw [rd 22 j (fun z => absurd z.1 (by decide)), rd 23 j (fun z => absurd z.1 (by decide))]⟩)
        refine ⟨V, z1, z2, fun a k h h' => (z3 a k h h').trans (fX a k h h'), fun a j h => (z4 a j h).trans (rd a j (fun z => h z.1)), fun j h1 h2 => ?_, fun j hj => (z6 j (by omega)).trans (rd 25 j (fun z => absurd z.2 (by omega))), ?_, ?_⟩
        · by_cases e : j = v
          · subst e
            rw [z6 _ (by omega), aX, pj_ai_wa_eq hS rfl, q, pj_cF]
          · rw [z5 j (by omega) h2, rd 25 j (fun z => e z.2), n7]
        · rw [z7, n7, e8, hk]
          exact (cg x8).1
        · rw [z8, n7, e21, hn]
          exact (cg x8).2 x21
      have hd1 : mr_bk (pj_ai C 25) (mr_hc (pj_ai C 22) (pj_ai C 23)) (pj_fi C 21 7) (m + 1) v (pj_fi C 6 8) = mr_bk (pj_ai C 25) (mr_hc (pj_ai C 22) (pj_ai C 23)) (pj_fi C 21 7) m (v + 1) (cond (mr_hc (pj_ai C 22) (pj_ai C 23) v) (pj_fi C 6 8) (pj_fi C 6 8 ||| (Int32.ofInt 1 <<< (w &&& 31)))) := by
        show mr_bk _ _ _ m (v + 1) (cond (pj_c1 .ne (pj_ai C 25 v) (pj_fi C 21 7)) _ _) = _
        rw [q, pj_cF, mr_ofv hw]
      have hd2 : mr_bn (pj_ai C 25) (mr_hc (pj_ai C 22) (pj_ai C 23)) (pj_fi C 21 7) (m + 1) v (pj_fi C 21 8) = mr_bn (pj_ai C 25) (mr_hc (pj_ai C 22) (pj_ai C 23)) (pj_fi C 21 7) m (v + 1) (cond (mr_hc (pj_ai C 22) (pj_ai C 23) v) (pj_fi C 21 8) (pj_fi C 21 8 + Int32.ofInt 1)) := by
        show mr_bn _ _ _ m (v + 1) (cond (pj_c1 .ne (pj_ai C 25 v) (pj_fi C 21 7)) _ _) = _
        rw [q, pj_cF]
      have hit : mr_hc (pj_ai C 22) (pj_ai C 23) v = false → _ := fun hh => key (pj_wv (pj_wv (pj_wa C 25 v (Int32.ofInt (-1))) 21 8 (.int (pj_fi C 21 8 + Int32.ofInt 1))) 6 8 (.int (pj_fi C 6 8 ||| (Int32.ofInt 1 <<< (w &&& 31))))) (pj_fi C 6 8 ||| (Int32.ofInt 1 <<< (w &&& 31))) (pj_fi C 21 8 + Int32.ofInt 1) (mr_sv (mr_sv sa (a := 21) (ci := 8) (k := 8) rfl _) (a := 6) (ci := 10) (k := 8) rfl _) (fun a k h1 h2 => (pj_fi_wv_ne _ _ _ _ _ _ h1).trans ((pj_fi_wv_ne _ _ _ _ _ _ h2).trans (pj_fi_wa _ _ _ _ _ _))) (fun a j => (pj_ai_wv _ _ _ _ _ _).trans (pj_ai_wv _ _ _ _ _ _)) (pj_fi_wi (mr_sv sa (a := 21) (ci := 8) (k := 8) rfl _) (a := 6) (ci := 10) (k := 8) rfl _) ((pj_fi_wv_ne _ _ _ _ _ _ (by decide)).trans (pj_fi_wi sa (a := 21) (ci := 8) (k := 8) rfl _)) (by rw [hd1, hh, pj_cF]) (by rw [hd2, hh, pj_cF])
      cases q2 : pj_c1 .ne (pj_ai C 22 v) (Int32.ofInt (-1)) with
      | true =>
        rw [pj_cT]
        exact hit (by unfold mr_hc; rw [q2]; rfl)
      | false =>
        rw [pj_cF]
        cases q3 : pj_c1 .le (pj_ai C 23 v) 0 with
        | true =>
          rw [pj_cT]
          have hh : mr_hc (pj_ai C 22) (pj_ai C 23) v = true := by unfold mr_hc; rw [q2, q3]; rfl
          exact key (pj_wa C 25 v (Int32.ofInt (-1))) (pj_fi C 6 8) (pj_fi C 21 8) sa (fun a k _ _ => pj_fi_wa _ _ _ _ _ _) (fun _ _ => rfl) (pj_fi_wa _ _ _ _ _ _) (pj_fi_wa _ _ _ _ _ _) (by rw [hd1, hh, pj_cT]) (by rw [hd2, hh, pj_cT])
        | false =>
          rw [pj_cF]
          exact hit (by unfold mr_hc; rw [q2, q3]; rfl)
/-- one BRIDGE in the reference's loop -/
theorem mr_h1e {G : pj_G} (hS : pj_coks pj_tb G.1 = true) (n : Nat) (v : Int32) : pj_coks pj_tb (mr_h1 G n v).1 = true ∧ (∀ a k, ¬ (a = 171 ∧ k = 33) → pj_fi (mr_h1 G n v) a k = pj_fi G a k) ∧ (∀ a j, ¬ (a = 179 ∧ j = 4 * n + 1) → pj_ai (mr_h1 G n v) a j = pj_ai G a j) ∧ pj_ai (mr_h1 G n v) 179 (4 * n + 1) = mr_yl (pj_ai G 179 (4 * n + 1)) ∧ pj_fi (mr_h1 G n v) 171 33 = cond (pj_c1 .le (pj_ai G 179 (4 * n + 1)) 0) (pj_fi G 171 33) (cond (pj_c1 .ne (pj_ai G 179 (4 * n + 1) - Int32.ofInt 1) 0) (pj_fi G 171 33 ||| Int32.ofInt 0) (pj_fi G 171 33 ||| (Int32.ofInt 1 <<< (v &&& 31)))) := by
  have sa := mr_sa hS (a := 179) rfl (4 * n + 1) (pj_ai G 179 (4 * n + 1) - Int32.ofInt 1)
  have key : ∀ x : Int32, pj_coks pj_tb (pj_wv (pj_wa G 179 (4 * n + 1) (pj_ai G 179 (4 * n + 1) - Int32.ofInt 1)) 171 33 (.int x)).1 = true ∧ (∀ a k, ¬ (a = 171 ∧ k = 33) → pj_fi (pj_wv (pj_wa G 179 (4 * n + 1) (pj_ai G 179 (4 * n + 1) - Int32.ofInt 1)) 171 33 (.int x)) a k = pj_fi G a k) ∧ (∀ a j, ¬ (a = 179 ∧ j = 4 * n + 1) → pj_ai (pj_wv (pj_wa G 179 (4 * n + 1) (pj_ai G 179 (4 * n + 1) - Int32.ofInt 1)) 171 33 (.int x)) a j = pj_ai G a j) ∧ pj_ai (pj_wv (pj_wa G 179 (4 * n + 1) (pj_ai G 179 (4 * n + 1) - Int32.ofInt 1)) 171 33 (.int x)) 179 (4 * n + 1) = pj_ai G 179 (4 * n + 1) - Int32.ofInt 1 ∧ pj_fi (pj_wv (pj_wa G 179 (4 * n + 1) (pj_ai G 179 (4 * n + 1) - Int32.ofInt 1)) 171 33 (.int x)) 171 33 = x := fun x =>
    ⟨mr_sv sa (a := 171) (ci := 12) (k := 33) rfl x, fun a k h => (pj_fi_wv_ne _ _ _ _ _ _ h).trans (pj_fi_wa _ _ _ _ _ _), fun a j h => (pj_ai_wv _ _ _ _ _ _).trans (by
      by_cases ha : a = 179
      · subst ha
        exact pj_ai_wa_nj _ _ _ _ _ (fun z => h ⟨rfl, z⟩)
      · exact pj_ai_wa_ne _ _ _ _ _ _ ha), (pj_ai_wv _ _ _ _ _ _).trans (pj_ai_wa_eq hS rfl), pj_fi_wi sa (a := 171) (ci := 12) (k := 33) rfl x⟩
  unfold mr_h1 mr_yl
  cases pj_c1 .le (pj_ai G 179 (4 * n + 1)) 0 with
  | true => exact ⟨hS, fun _ _ _ => rfl, fun _ _ _ => rfl, rfl, rfl⟩
  | false =>
    rw [pj_cF, pj_cF, pj_cF]
    cases pj_c1 .ne (pj_ai G 179 (4 * n + 1) - Int32.ofInt 1) 0 with
    | true => exact key _
    | false => exact key _
theorem mr_h3e {G : pj_G} (hS : pj_coks pj_tb G.1 = true) (b d : Int32) : pj_coks pj_tb (mr_h3 G b d).1 = true ∧ (∀ a k, ¬ (a = 171 ∧ k = 34) → ¬ (a = 171 ∧ k = 35) → pj_fi (mr_h3 G b d) a k = pj_fi G a k) ∧ (∀ a j, ¬ (a = 179 ∧ j = 31) → pj_ai (mr_h3 G b d) a j = pj_ai G a j) ∧ pj_fi (mr_h3 G b d) 171 34 = pj_fi G 171 34 ||| b ∧ pj_fi (mr_h3 G b d) 171 35 = pj_fi G 171 35 + d := by
  have s1 := mr_sv hS (a := 171) (ci := 12) (k := 34) rfl (pj_fi G 171 34 ||| b)
  have s2 := mr_sv s1 (a := 171) (ci := 12) (k := 35) rfl (pj_fi G 171 35 + d)
  unfold mr_h3
  refine ⟨mr_sa s2 (a := 179) rfl 31 _, fun a k h1 h2 => ?_, fun a j h => ?_, ?_, ?_⟩
  · rw [pj_fi_wa, pj_fi_wv_ne _ _ _ _ _ _ h2, pj_fi_wv_ne _ _ _ _ _ _ h1]
  · by_cases ha : a = 179
    · subst ha
      rw [pj_ai_wa_nj _ _ _ _ _ (fun z => h ⟨rfl, z⟩), pj_ai_wv, pj_ai_wv]
    · rw [pj_ai_wa_ne _ _ _ _ _ _ ha, pj_ai_wv, pj_ai_wv]
  · rw [pj_fi_wa, pj_fi_wv_ne _ _ _ _ _ _ (by decide), pj_fi_wi hS (a := 171) (ci := 12) (k := 34) rfl]
  · rw [pj_fi_wa, pj_fi_wi s1 (a := 171) (ci := 12) (k := 35) rfl]
theorem mr_z32 (x : Int32) : x + Int32.ofInt 0 = x := by
  rw [show Int32.ofInt 0 = 0 by decide, Int32.add_zero]
theorem mr_h2e {G : pj_G} (hS : pj_coks pj_tb G.1 = true) (n : Nat) (n6 : n < 6) (v : Int32) : pj_coks pj_tb (mr_h2 G n v).1 = true ∧ (∀ a k, ¬ (a = 171 ∧ k = 34) → ¬ (a = 171 ∧ k = 35) → pj_fi (mr_h2 G n v) a k = pj_fi G a k) ∧ (∀ a j, ¬ (a = 179 ∧ j = 4 * n + 2) → ¬ (a = 179 ∧ j = 31) → pj_ai (mr_h2 G n v) a j = pj_ai G a j) ∧ pj_ai (mr_h2 G n v) 179 (4 * n + 2) = cond (pj_c1 .ne (pj_ai G 179 (4 * n + 2)) (pj_ai G 179 30)) (pj_ai G 179 (4 * n + 2)) (Int32.ofInt (-1)) ∧ pj_fi (mr_h2 G n v) 171 34 = cond (pj_c1 .ne (pj_ai G 179 (4 * n + 2)) (pj_ai G 179 30)) (pj_fi G 171 34) (cond (!(pj_c1 .ge (pj_ai G 179 (4 * n)) 0) && !(pj_c1 .ne (pj_ai G 179 (4 * n + 1)) 0)) (pj_fi G 171 34) (pj_fi G 171 34 ||| (Int32.ofInt 1 <<< (v &&& 31)))) ∧ pj_fi (mr_h2 G n v) 171 35 = cond (pj_c1 .ne (pj_ai G 179 (4 * n + 2)) (pj_ai G 179 30)) (pj_fi G 171 35) (cond (!(pj_c1 .ge (pj_ai G 179 (4 * n)) 0) && !(pj_c1 .ne (pj_ai G 179 (4 * n + 1)) 0)) (pj_fi G 171 35) (pj_fi G 171 35 + Int32.ofInt 1)) := by
  have sa := mr_sa hS (a := 179) rfl (4 * n + 2) (Int32.ofInt (-1))
  have key : ∀ b d : Int32, pj_coks pj_tb (mr_h3 (pj_wa G 179 (4 * n + 2) (Int32.ofInt (-1))) b d).1 = true ∧ (∀ a k, ¬ (a = 171 ∧ k = 34) → ¬ (a = 171 ∧ k = 35) → pj_fi (mr_h3 (pj_wa G 179 (4 * n + 2) (Int32.ofInt (-1))) b d) a k = pj_fi G a k) ∧ (∀ a j, ¬ (a = 179 ∧ j = 4 * n + 2) → ¬ (a = 179 ∧ j = 31) → pj_ai (mr_h3 (pj_wa G 179 (4 * n + 2) (Int32.ofInt (-1))) b d) a j = pj_ai G a j) ∧ pj_ai (mr_h3 (pj_wa G 179 (4 * n + 2) (Int32.ofInt (-1))) b d) 179 (4 * n + 2) = Int32.ofInt (-1) ∧ pj_fi (mr_h3 (pj_wa G 179 (4 * n + 2) (Int32.ofInt (-1))) b d) 171 34 = pj_fi G 171 34 ||| b ∧ pj_fi (mr_h3 (pj_wa G 179 (4 * n + 2) (Int32.ofInt (-1))) b d) 171 35 = pj_fi G 171 35 + d := fun b d => by
    obtain ⟨z1, z2, z3, z4, z5⟩ := mr_h3e sa b d
    refine ⟨z1, fun a k h1 h2 => (z2 a k h1 h2).trans (pj_fi_wa _ _ _ _ _ _), fun a j h1 h2 => (z3 a j h2).trans ?_, (z3 179 (4 * n + 2) (fun z => absurd z.2 (by omega))).trans (pj_ai_wa_eq hS rfl), z4.trans (by rw [pj_fi_wa]), z5.trans (by rw [pj_fi_wa])⟩
    by_cases ha : a = 179
    · subst ha
      exact pj_ai_wa_nj _ _ _ _ _ (fun z => h1 ⟨rfl, z⟩)
    · exact pj_ai_wa_ne _ _ _ _ _ _ ha
  unfold mr_h2
  cases pj_c1 .ne (pj_ai G 179 (4 * n + 2)) (pj_ai G 179 30) with
  | true => exact ⟨hS, fun _ _ _ _ => rfl, fun _ _ _ _ => rfl, rfl, rfl, rfl⟩
  | false =>
    rw [pj_cF, pj_cF, pj_cF, pj_cF]
    cases pj_c1 .ge (pj_ai G 179 (4 * n)) 0 with
    | true => exact key _ _
    | false =>
      rw [pj_cF]
      cases pj_c1 .ne (pj_ai G 179 (4 * n + 1)) 0 with
      | true => exact key _ _
      | false =>
        have z := key (Int32.ofInt 0) (Int32.ofInt 0)
        rw [nt_o0, mr_z32] at z
        exact z
theorem mr_225l (R0 : pj_G) (N : Nat) (N6 : N ≤ 6) : ∀ (m fu v : Nat) (w : Int32) (R : pj_G), pj_coks pj_tb R.1 = true → (pj_fi R 171 5).toInt = (N : Int) → w.toInt = (v : Int) → v + m = N → m < fu → ∃ V : pj_G, L_225x R0 fu w R = V ∧ pj_coks pj_tb V.1 = true ∧ (∀ a k, ¬ (a = 171 ∧ (k = 33 ∨ k = 34 ∨ k = 35)) → pj_fi V a k = pj_fi R a k) ∧ (∀ a j, a ≠ 179 → pj_ai V a j = pj_ai R a j) ∧ (∀ j, v ≤ j → j < N → pj_ai V 179 (4 * j + 1) = mr_yl (pj_ai R 179 (4 * j + 1)) ∧ pj_ai V 179 (4 * j + 2) = cond (pj_c1 .ne (pj_ai R 179 (4 * j + 2)) (pj_ai R 179 30)) (pj_ai R 179 (4 * j + 2)) (Int32.ofInt (-1))) ∧ (∀ i, i ≠ 31 → (∀ j, v ≤ j → j < N → i ≠ 4 * j + 1 ∧ i ≠ 4 * j + 2) → pj_ai V 179 i = pj_ai R 179 i) ∧ pj_fi V 171 33 = mr_cm (fun j => pj_ai R 179 (4 * j + 1)) m v (pj_fi R 171 33) ∧ pj_fi V 171 34 = mr_bk (fun j => pj_ai R 179 (4 * j + 2)) (mr_hr (fun j => pj_ai R 179 (4 * j)) (fun j => mr_yl (pj_ai R 179 (4 * j + 1)))) (pj_ai R 179 30) m v (pj_fi R 171 34) ∧ pj_fi V 171 35 = mr_bn (fun j => pj_ai R 179 (4 * j + 2)) (mr_hr (fun j => pj_ai R 179 (4 * j)) (fun j => mr_yl (pj_ai R 179 (4 * j + 1)))) (pj_ai R 179 30) m v (pj_fi R 171 35) := by
  have k1 : (Int32.ofInt 1).toInt = 1 := by decide
  intro m
  induction m with
  | zero =>
    intro fu v w R hS hN hw hm hf
    obtain ⟨g, rfl⟩ : ∃ q, fu = q + 1 := ⟨fu - 1, by omega⟩
    rw [L_225x_s0]
    simp only [pj_nm_x]
    rw [pj_b_geT (show (pj_fi R 171 5).toInt ≤ w.toInt by omega), pj_cT]
    exact ⟨R, rfl, hS, fun _ _ _ => rfl, fun _ _ _ => rfl, fun j h1 h2 => absurd h2 (by omega), fun _ _ _ => rfl, rfl, rfl, rfl⟩
  | succ m ih =>
    intro fu v w R hS hN hw hm hf
    obtain ⟨g, rfl⟩ : ∃ q, fu = q + 1 := ⟨fu - 1, by omega⟩
    have s : (w + Int32.ofInt 1).toInt = ((v + 1 : Nat) : Int) := by rw [pj_addI (by omega) (by omega), k1]; omega
    rw [mr_225s R0 g w v hw (by omega) hS, pj_b_geF (show w.toInt < (pj_fi R 171 5).toInt by omega), pj_cF]
    obtain ⟨a1, a2, a3, a4, a5⟩ := mr_h1e hS v w
    obtain ⟨b1, b2, b3, b4, b5, b6⟩ := mr_h2e a1 v (by omega) w
    have rd : ∀ i, i ≠ 31 → i ≠ 4 * v + 1 → i ≠ 4 * v + 2 → pj_ai (mr_h2 (mr_h1 R v w) v w) 179 i = pj_ai R 179 i := fun i h1 h2 h3 => (b3 179 i (fun z => h3 z.2) (fun z => h1 z.2)).trans (a3 179 i (fun z => h2 z.2))
    have n30 := rd 30 (by decide) (by omega) (by omega)
    have m30 : pj_ai (mr_h1 R v w) 179 30 = pj_ai R 179 30 := a3 179 30 (fun z => absurd z.2 (by omega))
    have m2 : pj_ai (mr_h1 R v w) 179 (4 * v + 2) = pj_ai R 179 (4 * v + 2) := a3 179 _ (fun z => absurd z.2 (by omega))
    have m0 : pj_ai (mr_h1 R v w) 179 (4 * v) = pj_ai R 179 (4 * v) := a3 179 _ (fun z => absurd z.2 (by omega))
    rw [m30, m2] at b4
    rw [m30, m2, m0, a4, a2 171 34 (by decide)] at b5
    rw [m30, m2, m0, a4, a2 171 35 (by decide)] at b6
    obtain ⟨V, z1, z2, z3, z4, z5, z6, z7, z8, z9⟩ := ih g (v + 1) (w + Int32.ofInt 1) (mr_h2 (mr_h1 R v w) v w) b1 (by rw [b2 171 5 (by decide) (by decide), a2 171 5 (by decide)]; exact hN) s (by omega) (by omega)
    have cg := fun x => mr_bkc (l := fun j => pj_ai (mr_h2 (mr_h1 R v w) v w) 179 (4 * j + 2)) (l' := fun j => pj_ai R 179 (4 * j + 2)) (hm := mr_hr (fun j => pj_ai (mr_h2 (mr_h1 R v w) v w) 179 (4 * j)) (fun j => mr_yl (pj_ai (mr_h2 (mr_h1 R v w) v w) 179 (4 * j + 1)))) (hm' := mr_hr (fun j => pj_ai R 179 (4 * j)) (fun j => mr_yl (pj_ai R 179 (4 * j + 1)))) (N := pj_ai R 179 30) m (v + 1) x (fun j h1 h2 => ⟨rd _ (by omega) (by omega) (by omega), by
      unfold mr_hr
      dsimp only
      rw [rd (4 * j) (by omega) (by omega) (by omega), rd (4 * j + 1) (by omega) (by omega) (by omega)]⟩)
    refine ⟨V, z1, z2, fun a k h => ?_, fun a j h => ?_, fun j h1 h2 => ?_, fun i h1 h2 => ?_, ?_, ?_, ?_⟩
    · rw [z3 a k h, b2 a k (fun z => h ⟨z.1, .inr (.inl z.2)⟩) (fun z => h ⟨z.1, .inr (.inr z.2)⟩), a2 a k (fun z => h ⟨z.1, .inl z.2⟩)]
    · rw [z4 a j h, b3 a j (fun z => h z.1) (fun z => h z.1), a3 a j (fun z => h z.1)]
    · by_cases e : j = v
      · subst e
        rw [z6 (4 * j + 1) (by omega) (fun i h3 h4 => ⟨by omega, by omega⟩), z6 (4 * j + 2) (by omega) (fun i h3 h4 => ⟨by omega, by omega⟩), b4, b3 179 (4 * j + 1) (fun z => absurd z.2 (by omega)) (fun z => absurd z.2 (by omega)), a4]
        exact ⟨rfl, rfl⟩
      · obtain ⟨u1, u2⟩ := z5 j (by omega) h2
        rw [u1, u2, n30, rd (4 * j + 1) (by omega) (by omega) (by omega), rd (4 * j + 2) (by omega) (by omega) (by omega)]
        exact ⟨rfl, rfl⟩
    · obtain ⟨u1, u2⟩ := h2 v (Nat.le_refl _) (by omega)
      rw [z6 i h1 (fun j h3 h4 => h2 j (by omega) h4), rd i h1 u1 u2]
    · rw [z7, b2 171 33 (by decide) (by decide), a5]
      show _ = mr_cm _ m (v + 1) _
      rw [mr_ofv hw]
      exact mr_cmc m (v + 1) _ (fun j h1 h2 => rd _ (by omega) (by omega) (by omega))
    · rw [z8, n30, b5]
      show _ = mr_bk _ _ _ m (v + 1) _
      rw [mr_ofv hw]
      exact (cg _).1
    · rw [z9, n30, b6]
      show _ = mr_bn _ _ _ m (v + 1) _
      exact (cg (pj_fi R 171 34)).2 _
theorem mr_hm {w y : Int32} (hw : -1 ≤ w.toInt) (hy : 0 ≤ y.toInt) : (!(pj_c1 .ne w (Int32.ofInt (-1))) && pj_c1 .le y 0) = (!(pj_c1 .ge w 0) && !(pj_c1 .ne y 0)) := by
  have km : (Int32.ofInt (-1)).toInt = -1 := by decide
  by_cases a : w.toInt = -1
  · rw [pj_b_neF (show w.toInt = (Int32.ofInt (-1)).toInt by omega), pj_b0_geF (show w.toInt < 0 by omega)]
    by_cases b : y.toInt = 0
    · rw [pj_b0_leT (show y.toInt ≤ 0 by omega), pj_b0_neF b]
      rfl
    · rw [pj_b0_leF (show 0 < y.toInt by omega), pj_b0_neT b]
      rfl
  · rw [pj_b_neT (show ¬ w.toInt = (Int32.ofInt (-1)).toInt by omega), pj_b0_geT (show 0 ≤ w.toInt by omega)]
    rfl
theorem mr_yl0 {y : Int32} (hy : 0 ≤ y.toInt) : 0 ≤ (mr_yl y).toInt := by
  have k1 : (Int32.ofInt 1).toInt = 1 := by decide
  have r := pj_i32 y
  unfold mr_yl
  by_cases q : y.toInt ≤ 0
  · rw [pj_b0_leT q, pj_cT]
    exact hy
  · rw [pj_b0_leF (show 0 < y.toInt by omega), pj_cF, pj_subI (by omega) (by omega), k1]
    omega
theorem mr_bnd (l : Nat → Int32) (hm : Nat → Bool) (N c : Int32) : ∀ (m v : Nat) (x : Int32), mr_bn l hm N m v x - c = mr_bn l hm N m v (x - c)
  | 0, _, _ => rfl
  | m + 1, v, x => by
    show mr_bn l hm N m (v + 1) _ - c = mr_bn l hm N m (v + 1) _
    rw [mr_bnd l hm N c m (v + 1)]
    congr 1
    cases pj_c1 .ne (l v) N with
    | true => rfl
    | false =>
      cases hm v with
      | true => rfl
      | false =>
        show x + Int32.ofInt 1 - c = x - c + Int32.ofInt 1
        rw [Int32.sub_eq_add_neg, Int32.sub_eq_add_neg, Int32.add_assoc, Int32.add_comm (Int32.ofInt 1) (-c), ← Int32.add_assoc]
/-- what came, whose promises were broken, how many so far -/
def mr_J (b0 : Int32) (C R : pj_G) : Prop := pj_fi C 6 7 = pj_fi R 171 33 ∧ pj_fi C 6 8 = pj_fi R 171 34 ∧ pj_fi C 21 8 - b0 = pj_fi R 171 35
noncomputable def mr_hC (C : pj_G) : pj_G := F_107x (F_106x (pj_wv C 21 7 (.int (pj_fi C 21 7 + Int32.ofInt 1))))
noncomputable def mr_itC : Nat → pj_G → pj_G
  | 0, C => C
  | k + 1, C => mr_itC k (mr_hC C)
noncomputable def mr_itR : Nat → pj_G → pj_G
  | 0, R => R
  | k + 1, R => mr_itR k (F_225x R)
abbrev mr_WHC : pj_KT := ([(21, 7), (21, 8), (6, 7), (6, 8)], [6, 21, 23, 25], [23, 25])
abbrev mr_WHR : pj_KT := ([(171, 33), (171, 34), (171, 35)], [171, 179], [179])
theorem mr_hour {B kc : Int} {C R : pj_G} {b0 : Int32} (h : mr_A kc C R) (hB : B ≤ 3000000) (hS : mr_S B kc C R) : mr_S (B + 1) kc (mr_hC C) (F_225x R) ∧ (mr_J b0 C R → mr_J b0 (mr_hC C) (F_225x R)) ∧ pj_Inv (mr_hC C) ∧ pj_Inv (F_225x R) ∧ pj_kpt mr_WHC C (mr_hC C) ∧ pj_kpt mr_WHR R (F_225x R) := by
  have k0 : (Int32.ofInt 0).toInt = 0 := by decide
  have k1 : (Int32.ofInt 1).toInt = 1 := by decide
  have km : (Int32.ofInt (-1)).toInt = -1 := by decide
  have b30 : (((Int8.ofInt 30).toInt32)).toInt.toNat = 30 := by decide
  obtain ⟨⟨nb0, nb6⟩, ⟨np0, np6⟩, kc0, kc10⟩ := mr_nb h
  have iC := h.1
  have iR := h.2.1
  have hcn := h.2.2.1.1
  obtain ⟨N, hN⟩ : ∃ N : Nat, (pj_fi C 21 0).toInt = (N : Int) := ⟨(pj_fi C 21 0).toInt.toNat, by omega⟩
  have now1 : pj_fi C 21 7 = pj_ai R 179 30 := hS.2.2.1
  obtain ⟨⟨n0, nB⟩, o2, o3⟩ := hS.2.2.2
  have nB' : (pj_ai R 179 30).toInt ≤ B := nB
  have n0' : 0 ≤ (pj_ai R 179 30).toInt := n0
  have s1 : (pj_ai R 179 30 + Int32.ofInt 1).toInt = (pj_ai R 179 30).toInt + 1 := by rw [pj_addI (by omega) (by omega), k1]
  have iX : pj_Inv (pj_wv C 21 7 (.int (pj_fi C 21 7 + Int32.ofInt 1))) := pj_Inv_wi iC (ci := 8) rfl (fun q hq => by cases hq)
  obtain ⟨i1, kk1⟩ := fr_106x _ iX
  obtain ⟨i2, kk2⟩ := fr_107x _ i1
  obtain ⟨i3, kk3⟩ := fr_225x R iR
  have kC : pj_kpt mr_WHC C (mr_hC C) := by
    unfold mr_hC
    exact pj_kpt_t (pj_kpt_t (pj_kpt_v (pj_kpt_r _ _) rfl) (pj_kpt_s kk1 rfl)) (pj_kpt_s kk2 rfl)
  have kR : pj_kpt mr_WHR R (F_225x R) := pj_kpt_s kk3 rfl
  -- the class's loops
  have x0 : pj_fi (pj_wv C 21 7 (.int (pj_fi C 21 7 + Int32.ofInt 1))) 21 0 = pj_fi C 21 0 := pj_fi_wv_ne _ _ _ _ _ _ (by decide)
  obtain ⟨V, z1, z2, z3, z4, z5, z6, z7⟩ := mr_106l (pj_wv C 21 7 (.int (pj_fi C 21 7 + Int32.ofInt 1))) N (by omega) N 7 0 (Int32.ofInt 0) (pj_wv C 21 7 (.int (pj_fi C 21 7 + Int32.ofInt 1))) iX.1 (by rw [x0]; exact hN) (by omega) (by omega) (by omega)
  have e106 : F_106x (pj_wv C 21 7 (.int (pj_fi C 21 7 + Int32.ofInt 1))) = V := by
    rw [F_106x_e]
    exact z1
  obtain ⟨W, w1, w2, w3, w4, w5, w6, w7, w8⟩ := mr_107l V N (by omega) N 7 0 (Int32.ofInt 0) V z2 (by rw [z3 21 0 (by decide), x0]; exact hN) (by omega) (by omega) (by omega)
  have e107 : mr_hC C = W := by
    unfold mr_hC
    rw [e106, F_107x_e]
    exact w1
  have nV : pj_fi V 21 7 = pj_ai R 179 30 + Int32.ofInt 1 := by
    rw [z3 21 7 (by decide), pj_fi_wi iC.1 (a := 21) (ci := 8) (k := 7) rfl, now1]
  have aX : ∀ a j, pj_ai (pj_wv C 21 7 (.int (pj_fi C 21 7 + Int32.ofInt 1))) a j = pj_ai C a j := fun a j => pj_ai_wv _ _ _ _ _ _
  -- the reference's
  have r5 : (pj_fi R 171 5).toInt = (N : Int) := by omega
  have sR := mr_sa iR.1 (a := 179) rfl 30 (pj_ai R 179 30 + Int32.ofInt 1)
  obtain ⟨T, t1, t2, t3, t4, t5, t6, t7, t8, t9⟩ := mr_225l R N (by omega) N 7 0 (Int32.ofInt 0) (pj_wa R 179 30 (pj_ai R 179 30 + Int32.ofInt 1)) sR (by rw [pj_fi_wa]; exact r5) (by omega) (by omega) (by omega)
  have e225 : F_225x R = T := by
    rw [F_225x_e]
    simp only [pj_nm_x, b30]
    exact t1
  have aR : ∀ i, i ≠ 30 → pj_ai (pj_wa R 179 30 (pj_ai R 179 30 + Int32.ofInt 1)) 179 i = pj_ai R 179 i := fun i hi => pj_ai_wa_nj _ _ _ _ _ hi
  have aR30 : pj_ai (pj_wa R 179 30 (pj_ai R 179 30 + Int32.ofInt 1)) 179 30 = pj_ai R 179 30 + Int32.ofInt 1 := pj_ai_wa_eq iR.1 rfl
  have i2 : pj_Inv (mr_hC C) := i2
  rw [e107] at kC i2 ⊢
  rw [e225] at kR i3 ⊢
  have row : ∀ j : Nat, (j : Int) < (pj_fi C 21 0).toInt → pj_ai C 22 j = pj_ai R 179 (4 * j) ∧ pj_ai C 23 j = pj_ai R 179 (4 * j + 1) ∧ pj_ai C 25 j = pj_ai R 179 (4 * j + 2) ∧ pj_ai C 24 j = pj_ai R 179 (4 * j + 3) := fun j hj => by
    obtain ⟨h1, h2, h3, h4⟩ := hS.1 j hj
    rw [Nat.zero_add] at h1 h2 h3 h4
    exact ⟨h1, h2, h3, h4⟩
  have T0 : ∀ j, j < N → pj_ai T 179 (4 * j) = pj_ai R 179 (4 * j) := fun j hj => (t6 (4 * j) (by omega) (fun i _ _ => ⟨by omega, by omega⟩)).trans (aR _ (by omega))
  have T3 : ∀ j, j < N → pj_ai T 179 (4 * j + 3) = pj_ai R 179 (4 * j + 3) := fun j hj => (t6 (4 * j + 3) (by omega) (fun i _ _ => ⟨by omega, by omega⟩)).trans (aR _ (by omega))
  have T30 : pj_ai T 179 30 = pj_ai R 179 30 + Int32.ofInt 1 := (t6 30 (by decide) (fun i _ _ => ⟨by omega, by omega⟩)).trans aR30
  have T2 : ∀ j, j < N → pj_ai T 179 (4 * j + 2) = cond (pj_c1 .ne (pj_ai R 179 (4 * j + 2)) (pj_ai R 179 30 + Int32.ofInt 1)) (pj_ai R 179 (4 * j + 2)) (Int32.ofInt (-1)) := fun j hj => by
    rw [(t5 j (by omega) hj).2, aR _ (by omega), aR30]
  have c0 : pj_fi W 21 0 = pj_fi C 21 0 := kC.1 (21, 0) (by decide)
  have c5 : pj_fi W 21 5 = pj_fi C 21 5 := kC.1 (21, 5) (by decide)
  have hmE : ∀ j, j < N → mr_hc (pj_ai V 22) (pj_ai V 23) j = mr_hr (fun j => pj_ai (pj_wa R 179 30 (pj_ai R 179 30 + Int32.ofInt 1)) 179 (4 * j)) (fun j => mr_yl (pj_ai (pj_wa R 179 30 (pj_ai R 179 30 + Int32.ofInt 1)) 179 (4 * j + 1))) j := fun j hj => by
    obtain ⟨h1, h2, -, -⟩ := row j (by omega)
    have ob := (o2 j (by omega)).2.1
    rw [Nat.zero_add] at ob
    unfold mr_hc mr_hr
    dsimp only
    rw [z4 22 j (by decide), aX, h1, z5 j (by omega) hj, aX, h2, aR (4 * j) (by omega), aR (4 * j + 1) (by omega)]
    exact mr_hm ob (mr_yl0 (mr_yet iR j (by omega)))
  have lE : ∀ j, j < N → pj_ai V 25 j = pj_ai (pj_wa R 179 30 (pj_ai R 179 30 + Int32.ofInt 1)) 179 (4 * j + 2) := fun j hj => by
    rw [z4 25 j (by decide), aX, (row j (by omega)).2.2.1, aR (4 * j + 2) (by omega)]
  have cg := fun x => mr_bkc (l := pj_ai V 25) (l' := fun j => pj_ai (pj_wa R 179 30 (pj_ai R 179 30 + Int32.ofInt 1)) 179 (4 * j + 2)) (hm := mr_hc (pj_ai V 22) (pj_ai V 23)) (hm' := mr_hr (fun j => pj_ai (pj_wa R 179 30 (pj_ai R 179 30 + Int32.ofInt 1)) 179 (4 * j)) (fun j => mr_yl (pj_ai (pj_wa R 179 30 (pj_ai R 179 30 + Int32.ofInt 1)) 179 (4 * j + 1)))) (N := pj_ai R 179 30 + Int32.ofInt 1) N 0 x (fun j _ h2 => ⟨lE j (by omega), hmE j (by omega)⟩)
  have f68 : pj_fi V 6 8 = pj_fi C 6 8 := (z3 6 8 (by decide)).trans (pj_fi_wv_ne _ _ _ _ _ _ (by decide))
  have f218 : pj_fi V 21 8 = pj_fi C 21 8 := (z3 21 8 (by decide)).trans (pj_fi_wv_ne _ _ _ _ _ _ (by decide))
  have f67 : pj_fi (pj_wv C 21 7 (.int (pj_fi C 21 7 + Int32.ofInt 1))) 6 7 = pj_fi C 6 7 := pj_fi_wv_ne _ _ _ _ _ _ (by decide)
  refine ⟨?_, fun hJ => ⟨?_, ?_, ?_⟩, i2, i3, kC, kR⟩
  · unfold mr_S
    rw [c0, c5]
    refine ⟨fun j hj => ?_, fun p hp => ?_, ?_, ⟨?_, ?_⟩, fun j hj => ?_, fun j d hj hd ne e => ?_⟩
    · obtain ⟨h1, h2, h3, h4⟩ := row j hj
      rw [Nat.zero_add, T0 j (by omega), (t5 j (by omega) (by omega)).1, aR (4 * j + 1) (by omega), T2 j (by omega), T3 j (by omega)]
      refine ⟨?_, ?_, ?_, ?_⟩
      · rw [w4 22 j (by decide), z4 22 j (by decide), aX]
        exact h1
      · rw [w4 23 j (by decide), z5 j (by omega) (by omega), aX, h2]
      · rw [w5 j (by omega) (by omega), nV, z4 25 j (by decide), aX, h3]
      · rw [w4 24 j (by decide), z4 24 j (by decide), aX]
        exact h4
    · rw [w4 26 p (by decide), z4 26 p (by decide), aX, t6 (0 + 24 + p) (by omega) (fun i _ _ => ⟨by omega, by omega⟩), aR _ (by omega)]
      exact hS.2.1 p hp
    · rw [w3 21 7 (by decide) (by decide), nV]
      exact T30.symm
    · show 0 ≤ (pj_ai T 179 30).toInt
      rw [T30, s1]
      omega
    · show (pj_ai T 179 30).toInt ≤ B + 1
      rw [T30, s1]
      omega
    · obtain ⟨q1, q2, q3⟩ := o2 j hj
      rw [Nat.zero_add] at q1 q2 q3 ⊢
      rw [T0 j (by omega), T2 j (by omega)]
      refine ⟨?_, q2, q3⟩
      cases pj_c1 .ne (pj_ai R 179 (4 * j + 2)) (pj_ai R 179 30 + Int32.ofInt 1) with
      | true => exact q1
      | false =>
        show -1 ≤ (Int32.ofInt (-1)).toInt
        omega
    · rw [Nat.zero_add, T0 j (by omega)] at e ⊢
      rw [Nat.zero_add, T0 d (by omega)] at e
      have u := o3 j d hj hd ne (by rw [Nat.zero_add, Nat.zero_add]; exact e)
      rw [Nat.zero_add] at u
      exact u
  · rw [w3 6 7 (by decide) (by decide), z7, f67, t7, pj_fi_wa, hJ.1]
    exact mr_cmc N 0 _ (fun j _ h2 => by rw [aX, (row j (by omega)).2.1, aR (4 * j + 1) (by omega)])
  · rw [w7, nV, f68, t8, aR30, pj_fi_wa, hJ.2.1]
    exact (cg _).1
  · rw [w8, nV, f218, t9, aR30, pj_fi_wa, mr_bnd, hJ.2.2]
    exact (cg (pj_fi C 6 8)).2 _
theorem mr_its {kc : Int} {b0 : Int32} : ∀ (k : Nat) (B : Int) (C R : pj_G), mr_A kc C R → B + (k : Int) ≤ 3000000 → mr_S B kc C R → mr_S (B + (k : Int)) kc (mr_itC k C) (mr_itR k R) ∧ (mr_J b0 C R → mr_J b0 (mr_itC k C) (mr_itR k R)) ∧ pj_Inv (mr_itC k C) ∧ pj_Inv (mr_itR k R) ∧ pj_kpt mr_WHC C (mr_itC k C) ∧ pj_kpt mr_WHR R (mr_itR k R)
  | 0, B, C, R, h, hB, hS => ⟨by rw [show B + ((0 : Nat) : Int) = B by omega]; exact hS, fun hJ => hJ, h.1, h.2.1, pj_kpt_r _ _, pj_kpt_r _ _⟩
  | k + 1, B, C, R, h, hB, hS => by
    obtain ⟨a1, a2, a3, a4, a5, a6⟩ := mr_hour (b0 := b0) h (by omega) hS
    have hA := mr_Ak h a3 a5 rfl (a5.1 (21, 0) (by decide)) (a5.1 (21, 5) (by decide)) a4 a6 rfl
    obtain ⟨b1, b2, b3, b4, b5, b6⟩ := mr_its k (B + 1) (mr_hC C) (F_225x R) hA (by omega) a1
    rw [show B + 1 + (k : Int) = B + ((k + 1 : Nat) : Int) by omega] at b1
    exact ⟨b1, fun hJ => b2 (a2 hJ), b3, b4, pj_kpt_t a5 b5, pj_kpt_t a6 b6⟩
theorem mr_105i (C0 : pj_G) (n : Int32) : ∀ (m fu : Nat) (v : Int32) (C : pj_G), 0 ≤ v.toInt → n.toInt ≤ 999 → (m : Int) = (if n.toInt ≤ v.toInt then 0 else n.toInt - v.toInt) → m < fu → L_105x C0 n fu v C = mr_itC m C := by
  have k1 : (Int32.ofInt 1).toInt = 1 := by decide
  intro m
  induction m with
  | zero =>
    intro fu v C h0 h9 hm hf
    obtain ⟨g, rfl⟩ : ∃ q, fu = q + 1 := ⟨fu - 1, by omega⟩
    have hm : n.toInt ≤ v.toInt := by
      by_cases q : n.toInt ≤ v.toInt
      · exact q
      · rw [if_neg q] at hm
        omega
    rw [L_105x_s0, pj_b_geT hm, pj_cT]
    rfl
  | succ m ih =>
    intro fu v C h0 h9 hm hf
    obtain ⟨g, rfl⟩ : ∃ q, fu = q + 1 := ⟨fu - 1, by omega⟩
    have q : ¬ n.toInt ≤ v.toInt := fun q => by
      rw [if_pos q] at hm
      omega
    rw [if_neg q] at hm
    have s : (v + Int32.ofInt 1).toInt = v.toInt + 1 := by rw [pj_addI (by omega) (by omega), k1]
    rw [L_105x_s0]
    simp only [pj_nm_x]
    rw [pj_b_geF (show v.toInt < n.toInt by omega), pj_cF]
    exact ih g (v + Int32.ofInt 1) (mr_hC C) (by omega) h9 (by
      by_cases z : n.toInt ≤ (v + Int32.ofInt 1).toInt
      · rw [if_pos z]
        omega
      · rw [if_neg z]
        omega) (by omega)
/-- what the reference does behind its hours -/
noncomputable def mr_fin229 (R : pj_G) : Int32 × pj_G := F_216x (F_175fx (F_175fx (pj_wv R 171 1 (.int (Int32.ofInt 0))) (pj_fi (pj_wv R 171 1 (.int (Int32.ofInt 0))) 171 33).toInt64) (pj_fi (F_175fx (pj_wv R 171 1 (.int (Int32.ofInt 0))) (pj_fi (pj_wv R 171 1 (.int (Int32.ofInt 0))) 171 33).toInt64) 171 34).toInt64) (pj_ai (F_175fx (F_175fx (pj_wv R 171 1 (.int (Int32.ofInt 0))) (pj_fi (pj_wv R 171 1 (.int (Int32.ofInt 0))) 171 33).toInt64) (pj_fi (F_175fx (pj_wv R 171 1 (.int (Int32.ofInt 0))) (pj_fi (pj_wv R 171 1 (.int (Int32.ofInt 0))) 171 33).toInt64) 171 34).toInt64) 179 30)
theorem mr_229i (R0 : pj_G) (n : Int32) : ∀ (m fu : Nat) (v : Int32) (R : pj_G), 0 ≤ v.toInt → n.toInt ≤ 999 → (m : Int) = (if n.toInt ≤ v.toInt then 0 else n.toInt - v.toInt) → m < fu → L_229x R0 n fu v R = mr_fin229 (mr_itR m R) := by
  have k1 : (Int32.ofInt 1).toInt = 1 := by decide
  have b30 : (((Int8.ofInt 30).toInt32)).toInt.toNat = 30 := by decide
  intro m
  induction m with
  | zero =>
    intro fu v R h0 h9 hm hf
    obtain ⟨g, rfl⟩ : ∃ q, fu = q + 1 := ⟨fu - 1, by omega⟩
    have hm : n.toInt ≤ v.toInt := by
      by_cases q : n.toInt ≤ v.toInt
      · exact q
      · rw [if_neg q] at hm
        omega
    rw [L_229x_s0, pj_b_geT hm, pj_cT]
    unfold mr_fin229
    simp only [pj_nm_x, pj_bd_x, b30]
    rfl
  | succ m ih =>
    intro fu v R h0 h9 hm hf
    obtain ⟨g, rfl⟩ : ∃ q, fu = q + 1 := ⟨fu - 1, by omega⟩
    have q : ¬ n.toInt ≤ v.toInt := fun q => by
      rw [if_pos q] at hm
      omega
    rw [if_neg q] at hm
    have s : (v + Int32.ofInt 1).toInt = v.toInt + 1 := by rw [pj_addI (by omega) (by omega), k1]
    rw [L_229x_s0]
    simp only [pj_nm_x]
    rw [pj_b_geF (show v.toInt < n.toInt by omega), pj_cF]
    exact ih g (v + Int32.ofInt 1) (F_225x R) (by omega) h9 (by
      by_cases z : n.toInt ≤ (v + Int32.ofInt 1).toInt
      · rw [if_pos z]
        omega
      · rw [if_neg z]
        omega) (by omega)
theorem mr_rowB {C R : pj_G} {s a o : Nat} {nb np B B' kc : Int} (h : mr_row C s R a o nb np B kc) (hB : B ≤ B') : mr_row C s R a o nb np B' kc := ⟨h.1, h.2.1, h.2.2.1, mr_okB h.2.2.2 hB⟩
theorem mr_UB {B B' kc : Int} {C R : pj_G} (h : mr_U B kc C R) (hB : B ≤ B') : mr_U B' kc C R := ⟨h.1, fun i k h1 h2 h3 => mr_rowB (h.2 i k h1 h2 h3) hB⟩
theorem mr_UpB {B B' kc : Int} {C R : pj_G} (h : mr_Up B kc C R) (hB : B ≤ B') : mr_Up B' kc C R := ⟨mr_UB h.1 hB, fun i k h1 h2 h3 => mr_rowB (h.2 i k h1 h2 h3) hB⟩
theorem mr_hoursR {B kc : Int} {C R : pj_G} (h : mr_A kc C R) (hB : B + 99 ≤ 3000000) (hU15 : (pj_fi R 171 30).toInt ≤ 15) (hS : mr_S B kc C R) (hU : mr_U B kc C R) (n : Int32) : (F_131nx C n).1 = (F_229x R n).1 ∧ mr_S (B + 99) kc (F_131nx C n).2 (F_229x R n).2 ∧ mr_U (B + 99) kc (F_131nx C n).2 (F_229x R n).2 := by
  have k0 : (Int32.ofInt 0).toInt = 0 := by decide
  have k99 : (((Int8.ofInt 99).toInt32)).toInt = 99 := by decide
  have l0 : (Int64.ofNat 0).toInt = 0 := by decide
  have l99 : (Int64.ofInt 99).toInt = 99 := by decide
  have iC := h.1
  have iR := h.2.1
  have lk : (n.toInt64).toInt = n.toInt := Int32.toInt_toInt64 _
  obtain ⟨p1, p2⟩ := mr_171 (pj_wv R 171 0 (.int (Int32.ofInt 0))) n.toInt64 (Int64.ofNat 0) (Int64.ofInt 99)
  have sB : mr_S (B + 99) kc C (pj_wv R 171 0 (.int (Int32.ofInt 0))) := mr_Sf (mr_rowB hS (by omega)) iC rfl rfl rfl (fun _ _ _ _ => rfl) (fun j _ => pj_ai_wv _ _ _ _ _ _)
  have uB : mr_U (B + 99) kc C (pj_wv R 171 0 (.int (Int32.ofInt 0))) := mr_Uk (mr_UB hU (by omega)) ⟨rfl, rfl, rfl, rfl, fun _ _ => ⟨rfl, fun _ _ _ _ => rfl⟩⟩ ⟨by rw [pj_fi_wv_ne _ _ _ _ _ _ (by decide)], fun j => pj_ai_wv _ _ _ _ _ _⟩
  rw [F_131nx_e, F_229x_e]
  simp only [pj_nm_x]
  by_cases a1 : n.toInt < 0
  · rw [pj_b0_ltT a1, pj_cT, pj_b0_neF (p2 (by omega)), pj_cF]
    exact ⟨rfl, sB, uB⟩
  · by_cases a2 : n.toInt ≤ 99
    · rw [pj_b0_ltF (show 0 ≤ n.toInt by omega), pj_cF, pj_b_leT (show n.toInt ≤ (((Int8.ofInt 99).toInt32)).toInt by omega), pj_cT, pj_b0_neT (by rw [p1 (by omega)]; decide), pj_cT]
      obtain ⟨q, hq, eN, hS1, hU1, rf, ra⟩ := mr_noted iC iR hU15 hS hU
      have i0 : pj_Inv (pj_wv R 171 0 (.int (Int32.ofInt 0))) := pj_Inv_wi iR (ci := 12) rfl (fun q hq => by cases hq)
      obtain ⟨i1, k1, -⟩ := fr_33nx C iC
      obtain ⟨i2, k2⟩ := fr_215x (pj_wv R 171 0 (.int (Int32.ofInt 0))) i0 (by rw [pj_fi_wv_ne _ _ _ _ _ _ (by decide)]; exact hU15)
      have k2' : pj_kpt ([(171, 0)], [171, 186], [186]) R (F_215x (pj_wv R 171 0 (.int (Int32.ofInt 0)))) := pj_kpt_t (pj_kpt_v (pj_kpt_r _ _) rfl) (pj_kpt_s k2 rfl)
      have hA := mr_Ak h i1 k1 rfl (k1.1 (21, 0) (by decide)) (k1.1 (21, 5) (by decide)) i2 k2' rfl
      generalize F_215x (pj_wv R 171 0 (.int (Int32.ofInt 0))) = R1 at *
      generalize F_33nx C = C1 at *
      -- the counters begin
      obtain ⟨i3, k3⟩ := fr_224x R1 i2
      have iX1 : pj_Inv (pj_wv C1 6 7 (.int (Int32.ofInt 0))) := pj_Inv_wi i1 (ci := 10) rfl (fun q hq => by cases hq)
      have iX2 : pj_Inv (pj_wv (pj_wv C1 6 7 (.int (Int32.ofInt 0))) 6 8 (.int (Int32.ofInt 0))) := pj_Inv_wi iX1 (ci := 10) rfl (fun q hq => by cases hq)
      have kX : pj_kpt ([(6, 7), (6, 8)], [6], []) C1 (pj_wv (pj_wv C1 6 7 (.int (Int32.ofInt 0))) 6 8 (.int (Int32.ofInt 0))) := pj_kpt_v (pj_kpt_v (pj_kpt_r _ _) rfl) rfl
      have hA2 := mr_Ak hA iX2 kX rfl (kX.1 (21, 0) (by decide)) (kX.1 (21, 5) (by decide)) i3 k3 rfl
      have hS2 : mr_S B kc (pj_wv (pj_wv C1 6 7 (.int (Int32.ofInt 0))) 6 8 (.int (Int32.ofInt 0))) (F_224x R1) := mr_Sf hS1 i1 (kX.1 (21, 0) (by decide)) (kX.1 (21, 5) (by decide)) (kX.1 (21, 7) (by decide)) (fun a j _ _ => kX.2.2 a (fun hm => by cases hm) j) (fun j _ => k3.2.2 179 (by decide) j)
      have hU2 := mr_Upk hU1 (mr_cUk kX rfl) (mr_rUk k3 rfl)
      have e224 : pj_fi (F_224x R1) 171 33 = Int32.ofInt 0 ∧ pj_fi (F_224x R1) 171 34 = Int32.ofInt 0 ∧ pj_fi (F_224x R1) 171 35 = Int32.ofInt 0 := by
        have j1 := mr_sv i2.1 (a := 171) (ci := 12) (k := 33) rfl (Int32.ofInt 0)
        have j2 := mr_sv j1 (a := 171) (ci := 12) (k := 34) rfl (Int32.ofInt 0)
        rw [F_224x_e]
        simp only [pj_nm_x]
        exact ⟨by rw [pj_fi_wv_ne _ _ _ _ _ _ (by decide), pj_fi_wv_ne _ _ _ _ _ _ (by decide), pj_fi_wi i2.1 (a := 171) (ci := 12) (k := 33) rfl], by rw [pj_fi_wv_ne _ _ _ _ _ _ (by decide), pj_fi_wi j1 (a := 171) (ci := 12) (k := 34) rfl], pj_fi_wi j2 (a := 171) (ci := 12) (k := 35) rfl _⟩
      have hJ : mr_J (pj_fi C1 21 8) (pj_wv (pj_wv C1 6 7 (.int (Int32.ofInt 0))) 6 8 (.int (Int32.ofInt 0))) (F_224x R1) := by
        refine ⟨?_, ?_, ?_⟩
        · rw [e224.1, pj_fi_wv_ne _ _ _ _ _ _ (by decide), pj_fi_wi i1.1 (a := 6) (ci := 10) (k := 7) rfl]
        · rw [e224.2.1, pj_fi_wi iX1.1 (a := 6) (ci := 10) (k := 8) rfl]
        · rw [e224.2.2, pj_fi_wv_ne _ _ _ _ _ _ (by decide), pj_fi_wv_ne _ _ _ _ _ _ (by decide), Int32.sub_self]
          decide
      obtain ⟨m, hm⟩ : ∃ m : Nat, n.toInt = (m : Int) := ⟨n.toInt.toNat, by omega⟩
      have eC : F_105x C1 n = mr_itC m (pj_wv (pj_wv C1 6 7 (.int (Int32.ofInt 0))) 6 8 (.int (Int32.ofInt 0))) := by
        rw [F_105x_e]
        simp only [pj_nm_x]
        exact mr_105i C1 n m 1000 (Int32.ofInt 0) _ (by omega) (by omega) (by
          by_cases z : n.toInt ≤ (Int32.ofInt 0).toInt
          · rw [if_pos z]
            omega
          · rw [if_neg z]
            omega) (by omega)
      have eR := mr_229i R n m 100 (Int32.ofInt 0) (F_224x R1) (by omega) (by omega) (by
          by_cases z : n.toInt ≤ (Int32.ofInt 0).toInt
          · rw [if_pos z]
            omega
          · rw [if_neg z]
            omega) (by omega)
      rw [eC, eR]
      obtain ⟨b1, b2, b3, b4, b5, b6⟩ := mr_its (b0 := pj_fi C1 21 8) m B _ _ hA2 (by omega) hS2
      have hU3 := mr_Upk hU2 (mr_cUk b5 rfl) (mr_rUk b6 rfl)
      have u15 : (pj_fi (mr_itR m (F_224x R1)) 171 30).toInt ≤ 15 := by
        have e : pj_fi (mr_itR m (F_224x R1)) 171 30 = pj_fi R1 171 30 := (show pj_fi (mr_itR m (F_224x R1)) 171 30 = pj_fi (F_224x R1) 171 30 from b6.1 (171, 30) (by decide)).trans (k3.1 (171, 30) (by decide))
        rw [e, rf 30 (by decide)]
        exact hU15
      generalize mr_itC m (pj_wv (pj_wv C1 6 7 (.int (Int32.ofInt 0))) 6 8 (.int (Int32.ofInt 0))) = C3 at *
      generalize mr_itR m (F_224x R1) = R3 at *
      unfold mr_fin229
      -- what is told
      have j0 : pj_Inv (pj_wv R3 171 1 (.int (Int32.ofInt 0))) := pj_Inv_wi b4 (ci := 12) rfl (fun q hq => by cases hq; exact ⟨by show (0 : Int) ≤ _; omega, by show _ ≤ (24 : Int); omega⟩)
      have r0 : (pj_fi (pj_wv R3 171 1 (.int (Int32.ofInt 0))) 171 1).toInt = 0 := by rw [pj_fi_wi b4.1 (a := 171) (ci := 12) (k := 1) rfl, k0]
      obtain ⟨j1, m1, n1⟩ := fr_175fx (pj_wv R3 171 1 (.int (Int32.ofInt 0))) j0 (pj_fi (pj_wv R3 171 1 (.int (Int32.ofInt 0))) 171 33).toInt64 (by omega)
      generalize F_175fx (pj_wv R3 171 1 (.int (Int32.ofInt 0))) (pj_fi (pj_wv R3 171 1 (.int (Int32.ofInt 0))) 171 33).toInt64 = R4 at *
      obtain ⟨j2, m2, n2⟩ := fr_175fx R4 j1 (pj_fi R4 171 34).toInt64 (by omega)
      generalize F_175fx R4 (pj_fi R4 171 34).toInt64 = R5 at *
      have kT : pj_kpt ([(171, 1)], [171, 172], []) R3 R5 := pj_kpt_t (pj_kpt_t (pj_kpt_v (pj_kpt_r _ _) rfl) (pj_kpt_s m1 rfl)) (pj_kpt_s m2 rfl)
      have hS5 : mr_S (B + (m : Int)) kc C3 R5 := mr_Sf b1 b3 rfl rfl rfl (fun _ _ _ _ => rfl) (fun j _ => kT.2.2 179 (fun hm => by cases hm) j)
      have hU5 : mr_Up (B + 99) kc C3 R5 := mr_Upk (mr_UpB hU3 (by omega)) ⟨rfl, rfl, rfl, rfl, fun _ _ => ⟨rfl, fun _ _ _ _ => rfl⟩⟩ (mr_rUk kT rfl)
      have u5 : (pj_fi R5 171 30).toInt ≤ 15 := by
        have e : pj_fi R5 171 30 = pj_fi R3 171 30 := kT.1 (171, 30) (by decide)
        rw [e]
        exact u15
      have hS6 : mr_S (B + 99) kc C3 R5 := mr_rowB hS5 (by omega)
      obtain ⟨g1, g2⟩ := mr_held b3 j2 u5 hS6 hU5 (pj_ai R5 179 30)
      obtain ⟨i7, k7, -⟩ := fr_34nx C3 b3 (Int32.ofInt 1) (by decide)
      obtain ⟨c1, c2, c3, cf, ca⟩ := mr_34t b3
      have n7 : pj_fi (F_34nx C3 (Int32.ofInt 1)) 21 7 = pj_ai R5 179 30 := (cf 21 7 (by decide)).trans hS6.2.2.1
      generalize F_34nx C3 (Int32.ofInt 1) = C4 at *
      obtain ⟨i8, k8⟩ := fr_56x C4 i7 (pj_fi C4 6 7).toInt64 (pj_fi C4 6 8).toInt64
      dsimp only
      refine ⟨?_, mr_Sf g1 i7 (k8.1 (21, 0) (by decide)) (k8.1 (21, 5) (by decide)) (k8.1 (21, 7) (by decide)) (fun a j _ _ => k8.2.2 a (fun hm => by cases hm) j) (fun _ _ => rfl), mr_Uk g2 (mr_cUk k8 rfl) ⟨rfl, fun _ => rfl⟩⟩
      rw [show pj_fi (F_56x C4 (pj_fi C4 6 7).toInt64 (pj_fi C4 6 8).toInt64) 21 7 = pj_fi C4 21 7 from k8.1 (21, 7) (by decide), n7]
      exact (mr_216 j2 u5 _).1.symm
    · rw [pj_b0_ltF (show 0 ≤ n.toInt by omega), pj_cF, pj_b_leF (show (((Int8.ofInt 99).toInt32)).toInt < n.toInt by omega), pj_cF, pj_b0_neF (p2 (by omega)), pj_cF]
      exact ⟨rfl, sB, uB⟩
