theorem mr_65s (G0 : pj_G) (fu : Nat) (v2 v3 : Int32) (G : pj_G) : L_65x G0 (fu + 1) v2 v3 G = cond (pj_c1 .ge v3 (pj_fi G 27 1)) (pj_ai G 30 0, G) (mr_t5 (fun v G' => L_65x G0 fu v (v3 + Int32.ofInt 1) G') (mr_rc G v3.toInt.toNat) v2 G) := by
  have b0 : (Int32.ofInt 0).toInt.toNat = 0 := by decide
  rw [L_65x_s0]
  unfold mr_rc mr_t5
  simp only [pj_nm_x, mr_66, b0]
  cases pj_rb G 27 0 28 with
  | true => simp only [pj_cTx]
  | false => simp only [pj_cFx]
theorem mr_65l (G0 : pj_G) (f : Nat → Int32) (th : Nat → Int32) (v : Int32) (sz : Nat) (sz40 : sz ≤ 40) : ∀ (m fu n i : Nat) (v2 v3 : Int32) (G : pj_G), pj_coks pj_tb G.1 = true → (pj_fi G 27 1).toInt = (sz : Int) → (∀ j, j < 40 → mr_rc G j = f j) → (∀ j, j < 7 → pj_ai G 33 j = th j) → (∀ j, j < sz → (f j).toInt < 1000 ∨ 1000 ≤ (f j).toInt ∧ (f j).toInt ≤ 1006 ∨ 2000 ≤ (f j).toInt) → v2.toInt = (n : Int) → v3.toInt = (i : Int) → n ≤ i → i + m = sz → m < fu → mr_evl (mr_s1 th) (mr_cd f i m) (mr_sk (pj_ai G 30) n) = some [v] → (L_65x G0 fu v2 v3 G).1 = v := by
  have k1 : (Int32.ofInt 1).toInt = 1 := by decide
  have km : (Int32.ofInt (-1)).toInt = -1 := by decide
  have k40 : ((Int8.ofInt 40).toInt32).toInt = 40 := by decide
  have k1000 : ((Int16.ofInt 1000).toInt32).toInt = 1000 := by decide
  have k2000 : ((Int16.ofInt 2000).toInt32).toInt = 2000 := by decide
  intro m
  induction m with
  | zero =>
    intro fu n i v2 v3 G hS hz hc ht hf h2 h3 hni him hfu he
    obtain ⟨g, rfl⟩ : ∃ q, fu = q + 1 := ⟨fu - 1, by omega⟩
    have he : some (mr_sk (pj_ai G 30) n) = some [v] := he
    have he := Option.some.inj he
    have n1 : n = 1 := by
      rcases n with _ | _ | n
      · cases he
      · rfl
      · cases he
    subst n1
    have e0 : pj_ai G 30 0 = v := (List.cons.inj he).1
    rw [mr_65s, pj_b_geT (show (pj_fi G 27 1).toInt ≤ v3.toInt by omega), pj_cT]
    exact e0
  | succ m ih =>
    intro fu n i v2 v3 G hS hz hc ht hf h2 h3 hni him hfu he
    obtain ⟨g, rfl⟩ : ∃ q, fu = q + 1 := ⟨fu - 1, by omega⟩
    have i40 : i < 40 := by omega
    have s3 : (v3 + Int32.ofInt 1).toInt = ((i + 1 : Nat) : Int) := by rw [pj_addI (by omega) (by omega), k1]; omega
    rw [mr_65s, pj_b_geF (show v3.toInt < (pj_fi G 27 1).toInt by omega), pj_cF, show v3.toInt.toNat = i by omega, hc i i40]
    have he0 : mr_evl (mr_s1 th) (f i :: mr_cd f (i + 1) m) (mr_sk (pj_ai G 30) n) = some [v] := he
    have he : (match mr_s1 th (f i) (mr_sk (pj_ai G 30) n) with
      | some s => mr_evl (mr_s1 th) (mr_cd f (i + 1) m) s
      | none => none) = some [v] := he
    have fi := hf i (by omega)
    -- what goes on behind a write of the pile
    have go : ∀ (q n' : Nat) (x : Int32) (w : Int32), w.toInt = (n' : Int) → n' ≤ i + 1 → mr_evl (mr_s1 th) (mr_cd f (i + 1) m) (mr_sk (pj_ai (pj_wa G 30 q x) 30) n') = some [v] → (L_65x G0 g w (v3 + Int32.ofInt 1) (pj_wa G 30 q x)).1 = v := by
      intro q n' x w hw hn' e
      refine ih g n' (i + 1) w (v3 + Int32.ofInt 1) (pj_wa G 30 q x) (mr_sa hS rfl _ _) (by rw [pj_fi_wa]; exact hz) (fun j hj => ?_) (fun j hj => ?_) hf hw s3 hn' (by omega) (by omega) e
      · rw [← hc j hj]
        unfold mr_rc pj_rb
        rw [pj_fv_wa, pj_ai_wa_ne _ _ _ _ _ _ (by decide), pj_ai_wa_ne _ _ _ _ _ _ (by decide)]
      · rw [pj_ai_wa_ne _ _ _ _ _ _ (by decide)]
        exact ht j hj
    unfold mr_t5
    unfold mr_s1 at he
    by_cases c1 : (f i).toInt < 1000
    · rw [if_pos c1] at he
      rw [pj_b_geF (show (f i).toInt < ((Int16.ofInt 2000).toInt32).toInt by omega), pj_cF, pj_b_geF (show v2.toInt < ((Int8.ofInt 40).toInt32).toInt by omega), pj_cF, pj_b_geF (show (f i).toInt < ((Int16.ofInt 1000).toInt32).toInt by omega), pj_cF, show v2.toInt.toNat = n by omega]
      refine go n (n + 1) (f i) _ (by rw [pj_addI (by omega) (by omega), k1]; omega) (by omega) ?_
      show mr_evl (mr_s1 th) (mr_cd f (i + 1) m) (pj_ai (pj_wa G 30 n (f i)) 30 n :: mr_sk (pj_ai (pj_wa G 30 n (f i)) 30) n) = some [v]
      rw [pj_ai_wa_eq hS rfl, mr_skc n (fun j hj => pj_ai_wa_nj G 30 n (f i) j (by omega))]
      exact he
    · rw [if_neg c1] at he
      by_cases c2 : (f i).toInt < 2000
      · have tj : (f i - (Int16.ofInt 1000).toInt32).toInt = (f i).toInt - 1000 := by rw [pj_subI (by omega) (by omega), k1000]
        rw [if_pos c2] at he
        rw [pj_b_geF (show (f i).toInt < ((Int16.ofInt 2000).toInt32).toInt by omega), pj_cF, pj_b_geF (show v2.toInt < ((Int8.ofInt 40).toInt32).toInt by omega), pj_cF, pj_b_geT (show ((Int16.ofInt 1000).toInt32).toInt ≤ (f i).toInt by omega), pj_cT, show v2.toInt.toNat = n by omega, ht _ (by omega)]
        refine go n (n + 1) _ _ (by rw [pj_addI (by omega) (by omega), k1]; omega) (by omega) ?_
        show mr_evl (mr_s1 th) (mr_cd f (i + 1) m) (pj_ai (pj_wa G 30 n (th (f i - (Int16.ofInt 1000).toInt32).toInt.toNat)) 30 n :: mr_sk (pj_ai (pj_wa G 30 n (th (f i - (Int16.ofInt 1000).toInt32).toInt.toNat)) 30) n) = some [v]
        rw [pj_ai_wa_eq hS rfl, mr_skc n (fun j hj => pj_ai_wa_nj G 30 n _ j (by omega))]
        exact he
      · rw [if_neg c2] at he
        rw [pj_b_geT (show ((Int16.ofInt 2000).toInt32).toInt ≤ (f i).toInt by omega), pj_cT]
        by_cases c3 : (f i).toInt = 2000
        · rw [if_pos c3] at he
          rw [pj_b_neF (show (f i).toInt = ((Int16.ofInt 2000).toInt32).toInt by omega), pj_cF]
          rcases n with _ | n
          · cases he
          · have sm : (v2 - Int32.ofInt 1).toInt = (n : Int) := by rw [pj_subI (by omega) (by omega), k1]; omega
            rw [pj_b0_leF (show 0 < v2.toInt by omega), pj_cF, show (v2 - Int32.ofInt 1).toInt.toNat = n by omega]
            refine go n (n + 1) _ _ h2 (by omega) ?_
            show mr_evl (mr_s1 th) (mr_cd f (i + 1) m) (pj_ai (pj_wa G 30 n (-(pj_ai G 30 n))) 30 n :: mr_sk (pj_ai (pj_wa G 30 n (-(pj_ai G 30 n))) 30) n) = some [v]
            rw [pj_ai_wa_eq hS rfl, mr_skc n (fun j hj => pj_ai_wa_nj G 30 n _ j (by omega))]
            exact he
        · rw [if_neg c3] at he
          rw [pj_b_neT (show ¬ (f i).toInt = ((Int16.ofInt 2000).toInt32).toInt by omega), pj_cT]
          rcases n with _ | _ | n
          · cases he
          · cases he
          · have n1 : n + 1 ≤ i + 1 := by omega
            have nb : n ≤ 100 := by omega
            rw [pj_b_leF (show (Int32.ofInt 1).toInt < v2.toInt by omega), pj_cF]
            obtain ⟨sm, q2, q1⟩ := mr_dn h2 nb
            rw [q1, q2]
            rw [mr_sk1, mr_sk1] at he0
            have he2 := (mr_evl_s (mr_s1b th c1 c2 c3 (pj_ai G 30 n) (pj_ai G 30 (n + 1)) (mr_sk (pj_ai G 30) n)) (mr_cd f (i + 1) m)).symm.trans he0
            generalize mr_ap (f i - (Int16.ofInt 3000).toInt32) (pj_ai G 30 n) (pj_ai G 30 (n + 1)) = X at he2 ⊢
            refine go n (n + 1) X _ sm n1 ?_
            rw [mr_sk1, pj_ai_wa_eq hS rfl, mr_skc n (fun j hj => pj_ai_wa_nj G 30 n X j (Nat.ne_of_lt hj))]
            exact he2
/-! the reference -/
noncomputable def mr_t3 (K : Int32 → pj_G → Int32 × pj_G) (z v1 : Int32) (G : pj_G) : Int32 × pj_G := cond (pj_c1 .ne z ((Int16.ofInt 3000).toInt32)) (cond (pj_c1 .lt z ((Int16.ofInt 2000).toInt32)) (cond (pj_c1 .lt z ((Int16.ofInt 1000).toInt32)) (K (v1 + Int32.ofInt 1) (pj_wa G 184 v1.toInt.toNat z)) (K (v1 + Int32.ofInt 1) (pj_wa G 184 v1.toInt.toNat (pj_ai G 185 (z - (Int16.ofInt 1000).toInt32).toInt.toNat)))) (K (v1 + Int32.ofInt (-1)) (pj_wa G 184 (v1 + Int32.ofInt (-1) - Int32.ofInt 1).toInt.toNat (mr_wk (z - (Int16.ofInt 2000).toInt32) (pj_ai G 184 (v1 + Int32.ofInt (-1) - Int32.ofInt 1).toInt.toNat) (pj_ai G 184 (v1 + Int32.ofInt (-1)).toInt.toNat))))) (K v1 (pj_wa G 184 (v1 - Int32.ofInt 1).toInt.toNat (-(pj_ai G 184 (v1 - Int32.ofInt 1).toInt.toNat))))
/-- put to 1 .. 99 -/
def mr_99 (x : Int32) : Int32 := if (Int32.ofInt 1) < (if x < ((Int8.ofInt 99).toInt32) then x else ((Int8.ofInt 99).toInt32)) then (if x < ((Int8.ofInt 99).toInt32) then x else ((Int8.ofInt 99).toInt32)) else (Int32.ofInt 1)
theorem mr_203s (R0 : pj_G) (fu : Nat) (v1 v2 : Int32) (R : pj_G) : L_203x R0 (fu + 1) v1 v2 R = cond (pj_c1 .ge v2 (pj_fi R 171 26)) (cond (pj_c1 .ne (pj_fi R 171 26) 0) (mr_99 (pj_ai R 184 0), R) (mr_99 (pj_ai R 185 0 / ((Int8.ofInt 9).toInt32) + Int32.ofInt 2 * pj_ai R 185 1 + Int32.ofInt 1), R)) (mr_t3 (fun v R' => L_203x R0 fu v (v2 + Int32.ofInt 1) R') (pj_ai R 182 v2.toInt.toNat) v1 R) := by
  have b0 : (Int32.ofInt 0).toInt.toNat = 0 := by decide
  have b1 : (Int32.ofInt 1).toInt.toNat = 1 := by decide
  rw [L_203x_s0]
  unfold mr_t3 mr_99
  simp only [pj_nm_x, mr_202, b0, b1]
theorem mr_203l (R0 : pj_G) (f : Nat → Int32) (th : Nat → Int32) (v : Int32) (sz : Nat) (sz80 : sz ≤ 80) (sz1 : 1 ≤ sz) : ∀ (m fu n i : Nat) (v1 v2 : Int32) (R : pj_G), pj_coks pj_tb R.1 = true → (pj_fi R 171 26).toInt = (sz : Int) → (∀ j, j < 80 → pj_ai R 182 j = f j) → (∀ j, j < 7 → pj_ai R 185 j = th j) → (∀ j, j < sz → (f j).toInt < 1000 ∨ 1000 ≤ (f j).toInt ∧ (f j).toInt ≤ 1006 ∨ 2000 ≤ (f j).toInt) → v1.toInt = (n : Int) → v2.toInt = (i : Int) → n ≤ i → i + m = sz → m < fu → mr_evl (mr_r1 th) (mr_cd f i m) (mr_sk (pj_ai R 184) n) = some [v] → (L_203x R0 fu v1 v2 R).1 = mr_99 v := by
  have k1 : (Int32.ofInt 1).toInt = 1 := by decide
  have km : (Int32.ofInt (-1)).toInt = -1 := by decide
  have k1000 : ((Int16.ofInt 1000).toInt32).toInt = 1000 := by decide
  have k2000 : ((Int16.ofInt 2000).toInt32).toInt = 2000 := by decide
  have k3000 : ((Int16.ofInt 3000).toInt32).toInt = 3000 := by decide
  intro m
  induction m with
  | zero =>
    intro fu n i v1 v2 R hS hz hc ht hf h2 h3 hni him hfu he
    obtain ⟨g, rfl⟩ : ∃ q, fu = q + 1 := ⟨fu - 1, by omega⟩
    have he : some (mr_sk (pj_ai R 184) n) = some [v] := he
    have he := Option.some.inj he
    have n1 : n = 1 := by
      rcases n with _ | _ | n
      · cases he
      · rfl
      · cases he
    subst n1
    have e0 : pj_ai R 184 0 = v := (List.cons.inj he).1
    rw [mr_203s, pj_b_geT (show (pj_fi R 171 26).toInt ≤ v2.toInt by omega), pj_cT, pj_b0_neT (show ¬ (pj_fi R 171 26).toInt = 0 by omega), pj_cT, e0]
  | succ m ih =>
    intro fu n i v1 v2 R hS hz hc ht hf h2 h3 hni him hfu he
    obtain ⟨g, rfl⟩ : ∃ q, fu = q + 1 := ⟨fu - 1, by omega⟩
    have i80 : i < 80 := by omega
    have s3 : (v2 + Int32.ofInt 1).toInt = ((i + 1 : Nat) : Int) := by rw [pj_addI (by omega) (by omega), k1]; omega
    rw [mr_203s, pj_b_geF (show v2.toInt < (pj_fi R 171 26).toInt by omega), pj_cF, show v2.toInt.toNat = i by omega, hc i i80]
    have he0 : mr_evl (mr_r1 th) (f i :: mr_cd f (i + 1) m) (mr_sk (pj_ai R 184) n) = some [v] := he
    have he : (match mr_r1 th (f i) (mr_sk (pj_ai R 184) n) with
      | some s => mr_evl (mr_r1 th) (mr_cd f (i + 1) m) s
      | none => none) = some [v] := he
    have fi := hf i (by omega)
    have go : ∀ (q n' : Nat) (x : Int32) (w : Int32), w.toInt = (n' : Int) → n' ≤ i + 1 → mr_evl (mr_r1 th) (mr_cd f (i + 1) m) (mr_sk (pj_ai (pj_wa R 184 q x) 184) n') = some [v] → (L_203x R0 g w (v2 + Int32.ofInt 1) (pj_wa R 184 q x)).1 = mr_99 v := by
      intro q n' x w hw hn' e
      refine ih g n' (i + 1) w (v2 + Int32.ofInt 1) (pj_wa R 184 q x) (mr_sa hS rfl _ _) (by rw [pj_fi_wa]; exact hz) (fun j hj => ?_) (fun j hj => ?_) hf hw s3 hn' (by omega) (by omega) e
      · rw [pj_ai_wa_ne _ _ _ _ _ _ (by decide)]
        exact hc j hj
      · rw [pj_ai_wa_ne _ _ _ _ _ _ (by decide)]
        exact ht j hj
    unfold mr_t3
    unfold mr_r1 at he
    by_cases c1 : (f i).toInt < 1000
    · rw [if_pos c1] at he
      rw [pj_b_neT (show ¬ (f i).toInt = ((Int16.ofInt 3000).toInt32).toInt by omega), pj_cT, pj_b_ltT (show (f i).toInt < ((Int16.ofInt 2000).toInt32).toInt by omega), pj_cT, pj_b_ltT (show (f i).toInt < ((Int16.ofInt 1000).toInt32).toInt by omega), pj_cT, show v1.toInt.toNat = n by omega]
      refine go n (n + 1) (f i) _ (by rw [pj_addI (by omega) (by omega), k1]; omega) (by omega) ?_
      show mr_evl (mr_r1 th) (mr_cd f (i + 1) m) (pj_ai (pj_wa R 184 n (f i)) 184 n :: mr_sk (pj_ai (pj_wa R 184 n (f i)) 184) n) = some [v]
      rw [pj_ai_wa_eq hS rfl, mr_skc n (fun j hj => pj_ai_wa_nj R 184 n (f i) j (by omega))]
      exact he
    · rw [if_neg c1] at he
      by_cases c2 : (f i).toInt < 2000
      · have tj : (f i - (Int16.ofInt 1000).toInt32).toInt = (f i).toInt - 1000 := by rw [pj_subI (by omega) (by omega), k1000]
        rw [if_pos c2] at he
        rw [pj_b_neT (show ¬ (f i).toInt = ((Int16.ofInt 3000).toInt32).toInt by omega), pj_cT, pj_b_ltT (show (f i).toInt < ((Int16.ofInt 2000).toInt32).toInt by omega), pj_cT, pj_b_ltF (show ((Int16.ofInt 1000).toInt32).toInt ≤ (f i).toInt by omega), pj_cF, show v1.toInt.toNat = n by omega, ht _ (by omega)]
        refine go n (n + 1) _ _ (by rw [pj_addI (by omega) (by omega), k1]; omega) (by omega) ?_
        show mr_evl (mr_r1 th) (mr_cd f (i + 1) m) (pj_ai (pj_wa R 184 n (th (f i - (Int16.ofInt 1000).toInt32).toInt.toNat)) 184 n :: mr_sk (pj_ai (pj_wa R 184 n (th (f i - (Int16.ofInt 1000).toInt32).toInt.toNat)) 184) n) = some [v]
        rw [pj_ai_wa_eq hS rfl, mr_skc n (fun j hj => pj_ai_wa_nj R 184 n _ j (by omega))]
        exact he
      · rw [if_neg c2] at he
        by_cases c3 : (f i).toInt = 3000
        · rw [if_pos c3] at he
          rw [pj_b_neF (show (f i).toInt = ((Int16.ofInt 3000).toInt32).toInt by omega), pj_cF]
          rcases n with _ | n
          · cases he
          · have sm : (v1 - Int32.ofInt 1).toInt = (n : Int) := by rw [pj_subI (by omega) (by omega), k1]; omega
            rw [show (v1 - Int32.ofInt 1).toInt.toNat = n by omega]
            refine go n (n + 1) _ _ h2 (by omega) ?_
            show mr_evl (mr_r1 th) (mr_cd f (i + 1) m) (pj_ai (pj_wa R 184 n (-(pj_ai R 184 n))) 184 n :: mr_sk (pj_ai (pj_wa R 184 n (-(pj_ai R 184 n))) 184) n) = some [v]
            rw [pj_ai_wa_eq hS rfl, mr_skc n (fun j hj => pj_ai_wa_nj R 184 n _ j (by omega))]
            exact he
        · rw [if_neg c3] at he
          rw [pj_b_neT (show ¬ (f i).toInt = ((Int16.ofInt 3000).toInt32).toInt by omega), pj_cT, pj_b_ltF (show ((Int16.ofInt 2000).toInt32).toInt ≤ (f i).toInt by omega), pj_cF]
          rcases n with _ | _ | n
          · cases he
          · cases he
          · have n1 : n + 1 ≤ i + 1 := by omega
            have nb : n ≤ 100 := by omega
            obtain ⟨sm, q2, q1⟩ := mr_dn h2 nb
            rw [q1, q2]
            rw [mr_sk1, mr_sk1] at he0
            have he2 := (mr_evl_s (mr_r1b th c1 c2 c3 (pj_ai R 184 n) (pj_ai R 184 (n + 1)) (mr_sk (pj_ai R 184) n)) (mr_cd f (i + 1) m)).symm.trans he0
            generalize mr_wk (f i - (Int16.ofInt 2000).toInt32) (pj_ai R 184 n) (pj_ai R 184 (n + 1)) = X at he2 ⊢
            refine go n (n + 1) X _ sm n1 ?_
            rw [mr_sk1, pj_ai_wa_eq hS rfl, mr_skc n (fun j hj => pj_ai_wa_nj R 184 n X j (Nat.ne_of_lt hj))]
            exact he2
/-- THE RULE is the same on both sides -/
theorem mr_com2 (x : Int32) : x * Int32.ofInt 2 = Int32.ofInt 2 * x := Int32.mul_comm _ _
/-- reckoned, and put to 1 .. 99 -/
theorem mr_reck {C R : pj_G} (hC : pj_coks pj_tb C.1 = true) (hR : pj_coks pj_tb R.1 = true) (hQ : mr_Q C R) (ht : ∀ j, j < 7 → pj_ai C 33 j = pj_ai R 185 j) : mr_99 (F_65x C).1 = (F_203x R).1 := by
  have k0 : (Int32.ofInt 0).toInt = 0 := by decide
  have b0 : (Int32.ofInt 0).toInt.toNat = 0 := by decide
  have b1 : (Int32.ofInt 1).toInt.toNat = 1 := by decide
  rw [F_65x_e, F_203x_e]
  simp only [pj_nm_x]
  rcases hQ with ⟨z1, z2⟩ | ⟨s, t, e1, e2, s1, t1, s40, t80, hsem, f1, f2⟩
  · rw [pj_b0_neF z1, pj_cF, mr_203s R 80, pj_b_geT (show (pj_fi R 171 26).toInt ≤ (Int32.ofInt 0).toInt by omega), pj_cT, pj_b0_neF z2, pj_cF, b0, b1, ht 0 (by decide), ht 1 (by decide), mr_com2]
  · rw [pj_b0_neT (show ¬ (pj_fi C 27 1).toInt = 0 by omega), pj_cT]
    obtain ⟨v, hv⟩ := hsem (pj_ai C 33)
    obtain ⟨v1, v2⟩ := hv []
    rw [mr_65l C (mr_rc C) (pj_ai C 33) v s s40 s 41 0 0 (Int32.ofInt 0) (Int32.ofInt 0) C hC e1 (fun _ _ => rfl) (fun _ _ => rfl) f1 (by omega) (by omega) (by omega) (by omega) (by omega) v1]
    exact (mr_203l R (pj_ai R 182) (pj_ai C 33) v t t80 t1 t 81 0 0 (Int32.ofInt 0) (Int32.ofInt 0) R hR e2 (fun _ _ => rfl) (fun j hj => (ht j hj).symm) f2 (by omega) (by omega) (by omega) (by omega) (by omega) v2).symm
