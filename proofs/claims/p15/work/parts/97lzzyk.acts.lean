/-- acts, one behind the other -/
theorem md_L1 (C0 : pj_G) (f : Nat) (v2 v3 : Int32) (C : pj_G) : L_1x C0 (f + 1) v2 v3 C = cond (pj_c1 .ge v3 ((Int8.ofInt 21).toInt32)) C (cond (pj_c1 .eq v2 0) C (L_1x C0 f (F_82x (pj_wv (F_2x C v3) 49 3 (.int (v3 + Int32.ofInt 1))) ((Int8.ofInt 59).toInt32)).1 (v3 + Int32.ofInt 1) (F_82x (pj_wv (F_2x C v3) 49 3 (.int (v3 + Int32.ofInt 1))) ((Int8.ofInt 59).toInt32)).2)) := by
  rw [L_1x_s0]
  simp only [pj_nm_x, pj_bd_x]
theorem md_L1e (C0 : pj_G) (f : Nat) (v2 v3 : Int32) (C : pj_G) (h : v2.toInt = 0) : L_1x C0 (f + 1) v2 v3 C = C := by
  rw [md_L1, pj_b0_eqT h, pj_cT]
  cases pj_c1 .ge v3 ((Int8.ofInt 21).toInt32) <;> rfl
theorem md_L2 (R0 : pj_G) (f : Nat) (v1 v2 v3 : Int32) (R : pj_G) (h : ¬ v3.toInt = 0) : L_232tx R0 (f + 1) 0 v1 v2 v3 0 0 R = cond (pj_c1 .eq (F_230x R).1 0) (L_232tx R0 f 0 v1 (F_230x R).1 (Int32.ofInt 0) 0 0 (F_230x R).2) (cond (pj_c1 .eq (F_183x (F_230x R).2 ((Int8.ofInt 59).toInt32)).1 0) (L_232tx R0 f 0 v1 (F_230x R).1 (Int32.ofInt 0) 0 0 (F_183x (F_230x R).2 ((Int8.ofInt 59).toInt32)).2) (L_232tx R0 f 0 v1 (F_230x R).1 (Int32.ofInt 1) 0 0 (F_183x (F_230x R).2 ((Int8.ofInt 59).toInt32)).2)) := by
  rw [L_232tx_s0, pj_b0_eqF h, pj_cF]
  simp only [pj_nm_x, pj_bd_x]
abbrev md_WR : pj_KT := ([(171, 17), (171, 39)], [171, 187, 188, 189], [187, 188, 189])
theorem md_read (C0 R0 : pj_G) (n : Int32) : ∀ (k fc fr : Nat) (v2 v3 is more : Int32) (C R : pj_G), tx_RD C R → v2.toInt = more.toInt → (more.toInt = 0 ∨ more.toInt = 1) → is.toInt = 1 → v3.toInt = (pj_fi R 171 39).toInt → 0 ≤ v3.toInt → 3 * v3.toInt + more.toInt ≤ (pj_fi R 171 17).toInt + 1 → (pj_fi R 171 18).toInt ≤ 60 → (∀ j : Nat, (j : Int) < v3.toInt → md_a C R j) → pj_fi C 49 3 = v3 → 21 - v3.toInt ≤ (k : Int) → k < fc → k + 1 < fr → ∃ (is' more' : Int32) (R' : pj_G) (fr' : Nat), L_232tx R0 fr 0 n is more 0 0 R = L_232tx R0 (fr' + 1) 0 n is' more' 0 0 R' ∧ fr ≤ fr' + k + 2 ∧ more'.toInt = 0 ∧ pj_kpt md_WR R R' ∧ ((is'.toInt = 1 ∧ tx_RD (L_1x C0 fc v2 v3 C) R' ∧ (pj_fi (L_1x C0 fc v2 v3 C) 49 3).toInt = (pj_fi R' 171 39).toInt ∧ (pj_fi R' 171 39).toInt ≤ 20 ∧ ∀ j : Nat, (j : Int) < (pj_fi R' 171 39).toInt → md_a (L_1x C0 fc v2 v3 C) R' j) ∨ (is'.toInt = 0 ∧ tx_ER (L_1x C0 fc v2 v3 C) R')) := by
  have k0 : (Int32.ofInt 0).toInt = 0 := by decide
  have k1 : (Int32.ofInt 1).toInt = 1 := by decide
  have k21 : (((Int8.ofInt 21).toInt32)).toInt = 21 := by decide
  intro k
  induction k with
  | zero =>
    intro fc fr v2 v3 is more C R h hv2 hmo his h39 h0 h3 h60 hd h49 hk hfc hfr
    obtain ⟨-, -, -, a4, a5, a6, -⟩ := h
    exfalso
    omega
  | succ k ih =>
    intro fc fr v2 v3 is more C R h hv2 hmo his h39 h0 h3 h60 hd h49 hk hfc hfr
    obtain ⟨f, rfl⟩ : ∃ z, fc = z + 1 := ⟨fc - 1, by omega⟩
    obtain ⟨g, rfl⟩ : ∃ z, fr = z + 1 := ⟨fr - 1, by omega⟩
    obtain ⟨-, -, -, a4, a5, a6, -⟩ := id h
    have v20 : v3.toInt ≤ 20 := by omega
    by_cases m0 : more.toInt = 0
    · rw [md_L1e C0 f v2 v3 C (by omega)]
      exact ⟨is, more, R, g, rfl, by omega, m0, pj_kpt_r _ _, .inl ⟨his, h, by rw [h49]; exact h39, by omega, fun j hj => hd j (by omega)⟩⟩
    · obtain ⟨m, hm⟩ : ∃ m : Nat, v3.toInt = (m : Int) := ⟨v3.toInt.toNat, by omega⟩
      have s3 : (v3 + Int32.ofInt 1).toInt = v3.toInt + 1 := by rw [pj_addI (by omega) (by omega), k1]
      obtain ⟨i230, k230, -⟩ := fr_230x R h.2.1 (by omega)
      obtain ⟨y, C1, R1, z1, z2, z3, z4, z5, z6⟩ := md_act h v3 m hm (by omega) (by omega)
      rw [md_L1, md_L2 R0 g n is more R m0, pj_b_geF (show v3.toInt < (((Int8.ofInt 21).toInt32)).toInt by omega), pj_cF, pj_b0_eqF (show ¬ v2.toInt = 0 by omega), pj_cF, z1, z2]
      have k230 : pj_kpt md_WR R R1 := by
        have := pj_kpt_s (K2 := md_WR) k230 rfl
        rw [z2] at this
        exact this
      dsimp only
      have kp : ∀ a j, pj_ai (pj_wv C1 49 3 (.int (v3 + Int32.ofInt 1))) a j = pj_ai C1 a j := fun a j => pj_ai_wv _ _ _ _ _ _
      have md : ∀ j : Nat, (j : Int) < v3.toInt → md_a C1 R1 j := fun j hj => md_ak (hd j hj) (z3 50 rfl j (fun _ => by omega)) (z3 51 rfl j (fun _ => by omega)) (z3 52 rfl j (fun _ => by omega)) (z4 187 rfl j (fun _ => by omega)) (z4 188 rfl j (fun _ => by omega)) (z4 189 rfl j (fun _ => by omega))
      rcases z6 with ⟨y1, d1, w1, w2⟩ | ⟨y0, d0⟩
      · have i49 : pj_Inv (pj_wv C1 49 3 (.int (v3 + Int32.ofInt 1))) := pj_Inv_wi d1.1 (ci := 0) rfl (fun q hq => by cases hq; exact ⟨by show (0 : Int) ≤ _; omega, by show _ ≤ (21 : Int); omega⟩)
        have f49 : pj_fi (pj_wv C1 49 3 (.int (v3 + Int32.ofInt 1))) 49 3 = v3 + Int32.ofInt 1 := pj_fi_wi d1.1.1 (a := 49) (ci := 0) (k := 3) rfl _
        have d2 := tx_wvC d1 i49 (by decide)
        obtain ⟨e, d3⟩ := tx_skip d2 ((Int8.ofInt 59).toInt32) (by decide)
        obtain ⟨iR, kR, rR, ⟨tR, -⟩, -⟩ := fr_183x R1 d1.2.1 ((Int8.ofInt 59).toInt32) (by decide)
        obtain ⟨iC, kC, rC, -⟩ := fr_82x (pj_wv C1 49 3 (.int (v3 + Int32.ofInt 1))) i49 ((Int8.ofInt 59).toInt32) (by decide)
        have g49 : pj_fi (F_82x (pj_wv C1 49 3 (.int (v3 + Int32.ofInt 1))) ((Int8.ofInt 59).toInt32)).2 49 3 = v3 + Int32.ofInt 1 := (show pj_fi (F_82x (pj_wv C1 49 3 (.int (v3 + Int32.ofInt 1))) ((Int8.ofInt 59).toInt32)).2 49 3 = pj_fi (pj_wv C1 49 3 (.int (v3 + Int32.ofInt 1))) 49 3 from kC.1 (49, 3) (by decide)).trans f49
        have g39 : pj_fi (F_183x R1 ((Int8.ofInt 59).toInt32)).2 171 39 = pj_fi R1 171 39 := kR.1 (171, 39) (by decide)
        have g18 : pj_fi (F_183x R1 ((Int8.ofInt 59).toInt32)).2 171 18 = pj_fi R1 171 18 := kR.1 (171, 18) (by decide)
        have h18 : pj_fi R1 171 18 = pj_fi R 171 18 := k230.1 (171, 18) (by decide)
        have md2 : ∀ j : Nat, (j : Int) < (v3 + Int32.ofInt 1).toInt → md_a (F_82x (pj_wv C1 49 3 (.int (v3 + Int32.ofInt 1))) ((Int8.ofInt 59).toInt32)).2 (F_183x R1 ((Int8.ofInt 59).toInt32)).2 j := fun j hj => by
          have b : md_a C1 R1 j := by
            by_cases q : (j : Int) < v3.toInt
            · exact md j q
            · have : j = m := by omega
              subst this
              exact w1
          exact md_ak b ((kC.2.2 50 (by decide) j).trans (kp _ _)) ((kC.2.2 51 (by decide) j).trans (kp _ _)) ((kC.2.2 52 (by decide) j).trans (kp _ _)) (kR.2.2 187 (by decide) j) (kR.2.2 188 (by decide) j) (kR.2.2 189 (by decide) j)
        have kRR : pj_kpt md_WR R (F_183x R1 ((Int8.ofInt 59).toInt32)).2 := pj_kpt_t k230 (pj_kpt_s kR rfl)
        rw [pj_b0_eqF (show ¬ y.toInt = 0 by omega), pj_cF]
        generalize (F_82x (pj_wv C1 49 3 (.int (v3 + Int32.ofInt 1))) ((Int8.ofInt 59).toInt32)).2 = C2 at *
        generalize (F_82x (pj_wv C1 49 3 (.int (v3 + Int32.ofInt 1))) ((Int8.ofInt 59).toInt32)).1 = sc at *
        generalize (F_183x R1 ((Int8.ofInt 59).toInt32)).2 = R2 at *
        generalize (F_183x R1 ((Int8.ofInt 59).toInt32)).1 = sr at *
        have go : ∀ more2 : Int32, more2.toInt = sr.toInt → ∃ (is' more' : Int32) (R' : pj_G) (fr' : Nat), L_232tx R0 g 0 n y more2 0 0 R2 = L_232tx R0 (fr' + 1) 0 n is' more' 0 0 R' ∧ g + 1 ≤ fr' + (k + 1) + 2 ∧ more'.toInt = 0 ∧ pj_kpt md_WR R R' ∧ ((is'.toInt = 1 ∧ tx_RD (L_1x C0 f sc (v3 + Int32.ofInt 1) C2) R' ∧ (pj_fi (L_1x C0 f sc (v3 + Int32.ofInt 1) C2) 49 3).toInt = (pj_fi R' 171 39).toInt ∧ (pj_fi R' 171 39).toInt ≤ 20 ∧ ∀ j : Nat, (j : Int) < (pj_fi R' 171 39).toInt → md_a (L_1x C0 f sc (v3 + Int32.ofInt 1) C2) R' j) ∨ (is'.toInt = 0 ∧ tx_ER (L_1x C0 f sc (v3 + Int32.ofInt 1) C2) R')) := fun more2 hm2 => by
          obtain ⟨is', more', R', fr', b1, b2, b3, b4, b5⟩ := ih f g sc (v3 + Int32.ofInt 1) y more2 C2 R2 d3 (by omega) (by omega) y1 (by rw [g39]; omega) (by omega) (by omega) (by rw [g18, h18]; exact h60) md2 g49 (by omega) (by omega) (by omega)
          exact ⟨is', more', R', fr', b1, by omega, b3, pj_kpt_t kRR b4, b5⟩
        by_cases q : sr.toInt = 0
        · rw [pj_b0_eqT q, pj_cT]
          exact go _ (by omega)
        · rw [pj_b0_eqF q, pj_cF]
          exact go _ (by omega)
      · rw [pj_b0_eqT y0, pj_cT]
        have i49 : pj_Inv (pj_wv C1 49 3 (.int (v3 + Int32.ofInt 1))) := pj_Inv_wi d0.1 (ci := 0) rfl (fun q hq => by cases hq; exact ⟨by show (0 : Int) ≤ _; omega, by show _ ≤ (21 : Int); omega⟩)
        have d2 := tx_ewvC d0 i49 (by decide)
        obtain ⟨j1, j2, j3, j4⟩ := tx_82d d2.1 (tx_enb d2) ((Int8.ofInt 59).toInt32) (by decide)
        have d3 := tx_eC d2 j1 ⟨j3, j4⟩
        obtain ⟨f', rfl⟩ : ∃ z, f = z + 1 := ⟨f - 1, by omega⟩
        obtain ⟨g', rfl⟩ : ∃ z, g = z + 1 := ⟨g - 1, by omega⟩
        rw [md_L1e C0 f' _ _ _ j2]
        exact ⟨y, Int32.ofInt 0, R1, g', rfl, by omega, k0, k230, .inr ⟨y0, d3⟩⟩
/-- the reference's hours of one act -/
theorem md_231i (R0 : pj_G) (i x : Int32) : ∀ (m fu : Nat) (v : Int32) (R : pj_G), pj_Inv R → pj_ai R 188 i.toInt.toNat = x → 0 ≤ v.toInt → x.toInt ≤ 99 → (m : Int) = (if x.toInt ≤ v.toInt then 0 else x.toInt - v.toInt) → m < fu → L_231x R0 i fu v R = (Int32.ofInt 1, mr_itR m R) := by
  have k1 : (Int32.ofInt 1).toInt = 1 := by decide
  intro m
  induction m with
  | zero =>
    intro fu v R iR hx h0 h9 hm hf
    obtain ⟨g, rfl⟩ : ∃ q, fu = q + 1 := ⟨fu - 1, by omega⟩
    rw [L_231x_s0]
    simp only [pj_nm_x]
    rw [hx]
    split at hm
    · rw [pj_b_geT (by assumption), pj_cT]
      rfl
    · omega
  | succ m ih =>
    intro fu v R iR hx h0 h9 hm hf
    obtain ⟨g, rfl⟩ : ∃ q, fu = q + 1 := ⟨fu - 1, by omega⟩
    rw [L_231x_s0]
    simp only [pj_nm_x]
    rw [hx]
    split at hm
    · omega
    · obtain ⟨i2, k2⟩ := fr_225x R iR
      have s : (v + Int32.ofInt 1).toInt = v.toInt + 1 := by rw [pj_addI (by omega) (by omega), k1]
      rw [pj_b_geF (show v.toInt < x.toInt by omega), pj_cF]
      exact ih g (v + Int32.ofInt 1) (F_225x R) i2 ((k2.2.2 188 (by decide) _).trans hx) (by omega) h9 (by
        by_cases z : x.toInt ≤ (v + Int32.ofInt 1).toInt
        · rw [if_pos z]
          omega
        · rw [if_neg z]
          omega) (by omega)
/-- one act is done -/
theorem md_one {B kc : Int} {C R : pj_G} (h : mr_A kc C R) (hRI : pj_RI R) (hB : B + 99 ≤ 2000000) (hS : mr_S B kc C R) (hQ : mr_Q C R) (i : Int32) (n : Nat) (hi : i.toInt = (n : Int)) (ha : md_a C R n) : (((F_4x C i).1.toInt = 1 ∧ (F_231x R i).1.toInt = 1) ∨ ((F_4x C i).1.toInt = 0 ∧ (F_231x R i).1.toInt = 0)) ∧ mr_S (B + 99) kc (F_4x C i).2 (F_231x R i).2 := by
  have k0 : (Int32.ofInt 0).toInt = 0 := by decide
  have k1 : (Int32.ofInt 1).toInt = 1 := by decide
  have km : (Int32.ofInt (-1)).toInt = -1 := by decide
  have b30 : (((Int8.ofInt 30).toInt32)).toInt.toNat = 30 := by decide
  have en : i.toInt.toNat = n := by omega
  obtain ⟨kd, a1, a2, r0, r9⟩ := ha
  have iC := h.1
  have iR := h.2.1
  rw [F_4x_e, F_231x_e]
  simp only [pj_nm_x, pj_bd_x]
  rw [en, a1]
  rcases kd with ⟨c1, c2⟩ | ⟨c1, c2⟩ | ⟨c1, c2⟩ | ⟨c1, c2⟩
  · rw [if_neg (show ¬ (pj_ai C 50 n).toInt = 99 by omega), if_neg (show ¬ (pj_ai C 50 n).toInt = 108 by omega), if_pos c1, if_pos c2, a2 (by omega)]
    obtain ⟨ey, hS2⟩ := mr_start h hRI hS hQ (pj_ai R 188 n) (pj_ai R 189 n)
    rw [← ey]
    by_cases q : 0 ≤ (F_102x C (pj_ai R 188 n) (pj_ai R 189 n)).1.toInt
    · rw [pj_b0_ltF q, pj_cF, pj_cF]
      exact ⟨.inl ⟨k1, k1⟩, mr_rowB hS2 (by omega)⟩
    · rw [pj_b0_ltT (by omega), pj_cT, pj_cT]
      exact ⟨.inr ⟨k0, k0⟩, mr_rowB hS2 (by omega)⟩
  · rw [if_neg (show ¬ (pj_ai C 50 n).toInt = 99 by omega), if_pos c1, if_neg (show ¬ (pj_ai R 187 n).toInt = 0 by omega), if_pos c2, a2 (by omega), b30, show pj_fi C 21 7 = pj_ai R 179 30 from hS.2.2.1]
    obtain ⟨ey, hS2, al⟩ := mr_loan h (by omega) hS (pj_ai R 188 n) (pj_ai R 179 30 + pj_ai R 189 n)
    rcases al with ⟨z0, zl⟩ | ⟨z1, zg⟩
    · rw [pj_b_ltT (show (F_103x C (pj_ai R 188 n) (pj_ai R 179 30 + pj_ai R 189 n)).1.toInt < (Int32.ofInt (-1)).toInt by omega), pj_cT]
      exact ⟨.inr ⟨k0, z0⟩, mr_rowB hS2 (by omega)⟩
    · rw [pj_b_ltF (show (Int32.ofInt (-1)).toInt ≤ (F_103x C (pj_ai R 188 n) (pj_ai R 179 30 + pj_ai R 189 n)).1.toInt by omega), pj_cF]
      exact ⟨.inl ⟨k1, z1⟩, mr_rowB hS2 (by omega)⟩
  · rw [if_pos c1, if_neg (show ¬ (pj_ai R 187 n).toInt = 0 by omega), if_neg (show ¬ (pj_ai R 187 n).toInt = 1 by omega), if_pos c2, a2 (by omega)]
    obtain ⟨ey, hS2⟩ := mr_walk h hS (pj_ai R 188 n) (pj_ai R 189 n)
    rw [← ey]
    by_cases q : 0 ≤ (F_104x C (pj_ai R 188 n) (pj_ai R 189 n)).1.toInt
    · rw [pj_b0_ltF q, pj_cF, pj_cF]
      exact ⟨.inl ⟨k1, k1⟩, mr_rowB hS2 (by omega)⟩
    · rw [pj_b0_ltT (by omega), pj_cT, pj_cT]
      exact ⟨.inr ⟨k0, k0⟩, mr_rowB hS2 (by omega)⟩
  · rw [if_neg (show ¬ (pj_ai C 50 n).toInt = 99 by omega), if_neg (show ¬ (pj_ai C 50 n).toInt = 108 by omega), if_neg (show ¬ (pj_ai C 50 n).toInt = 116 by omega), if_neg (show ¬ (pj_ai R 187 n).toInt = 0 by omega), if_neg (show ¬ (pj_ai R 187 n).toInt = 1 by omega), if_neg (show ¬ (pj_ai R 187 n).toInt = 2 by omega)]
    have iX1 : pj_Inv (pj_wv C 6 7 (.int (Int32.ofInt 0))) := pj_Inv_wi iC (ci := 10) rfl (fun q hq => by cases hq)
    have iX2 : pj_Inv (pj_wv (pj_wv C 6 7 (.int (Int32.ofInt 0))) 6 8 (.int (Int32.ofInt 0))) := pj_Inv_wi iX1 (ci := 10) rfl (fun q hq => by cases hq)
    have kX : pj_kpt ([(6, 7), (6, 8)], [6], []) C (pj_wv (pj_wv C 6 7 (.int (Int32.ofInt 0))) 6 8 (.int (Int32.ofInt 0))) := pj_kpt_v (pj_kpt_v (pj_kpt_r _ _) rfl) rfl
    have hA2 := mr_Ak h iX2 kX rfl (kX.1 (21, 0) (by decide)) (kX.1 (21, 5) (by decide)) iR (pj_kpt_r ([], [], []) R) rfl
    have hS2 : mr_S B kc (pj_wv (pj_wv C 6 7 (.int (Int32.ofInt 0))) 6 8 (.int (Int32.ofInt 0))) R := mr_Sf hS iC (kX.1 (21, 0) (by decide)) (kX.1 (21, 5) (by decide)) (kX.1 (21, 7) (by decide)) (fun a j _ _ => kX.2.2 a (fun hm => by cases hm) j) (fun j _ => rfl)
    obtain ⟨x, hx⟩ : ∃ x : Int32, pj_ai R 188 n = x := ⟨_, rfl⟩
    rw [hx] at r0 r9 ⊢
    obtain ⟨m, hm⟩ : ∃ m : Nat, x.toInt = (m : Int) := ⟨x.toInt.toNat, by omega⟩
    have eC : F_105x C x = mr_itC m (pj_wv (pj_wv C 6 7 (.int (Int32.ofInt 0))) 6 8 (.int (Int32.ofInt 0))) := by
      rw [F_105x_e]
      simp only [pj_nm_x]
      exact mr_105i C x m 1000 (Int32.ofInt 0) _ (by omega) (by omega) (by
        by_cases z : x.toInt ≤ (Int32.ofInt 0).toInt
        · rw [if_pos z]
          omega
        · rw [if_neg z]
          omega) (by omega)
    rw [eC, md_231i R i x m 2147483648 (Int32.ofInt 0) R iR (by rw [en]; exact hx) (by omega) r9 (by
        by_cases z : x.toInt ≤ (Int32.ofInt 0).toInt
        · rw [if_pos z]
          omega
        · rw [if_neg z]
          omega) (by omega)]
    obtain ⟨b1, -, -, -, -, -⟩ := mr_its (b0 := Int32.ofInt 0) m B _ _ hA2 (by omega) hS2
    exact ⟨.inl ⟨k1, k1⟩, mr_rowB b1 (by omega)⟩
noncomputable def md_G (f : Int32) (R : pj_G) : pj_G := F_175fx (F_175fx (pj_wv R 171 1 (.int (Int32.ofInt 0))) (F_173x (pj_wv R 171 1 (.int (Int32.ofInt 0))) f).toInt64) (pj_fi (F_175fx (pj_wv R 171 1 (.int (Int32.ofInt 0))) (F_173x (pj_wv R 171 1 (.int (Int32.ofInt 0))) f).toInt64) 171 35).toInt64
noncomputable def md_fin (f dn : Int32) (R : pj_G) : Int32 × pj_G := cond (pj_c1 .le dn 0) (Int32.ofInt 0, md_G f R) ((F_216x (md_G f R) dn).1, (F_216x (md_G f R) dn).2)
abbrev md_WC : pj_KT := ([(6, 7), (6, 8), (21, 7), (21, 8)], [6, 21, 22, 23, 24, 25, 26, 30, 33], [22, 23, 24, 25, 26, 30, 33])
abbrev md_WD : pj_KT := ([(171, 32), (171, 33), (171, 34), (171, 35)], [171, 179, 184, 185], [179, 184, 185])
theorem md_run (C0 R0 : pj_G) (v1 v2 v3 v4 : Int32) {kc : Int} (N : Nat) (N20 : N ≤ 20) : ∀ (m fc fr : Nat) (v : Int32) (B : Int) (C R : pj_G), mr_A kc C R → pj_RI R → B + 99 * (m : Int) ≤ 2000000 → mr_S B kc C R → mr_Q C R → 0 ≤ v.toInt → (pj_fi C 49 3).toInt = (N : Int) → (pj_fi R 171 39).toInt = (N : Int) → v.toInt + (m : Int) = (N : Int) → (∀ j : Nat, j < N → md_a C R j) → m < fc → m < fr → ∃ (dn f : Int32) (Cd Rd : pj_G), L_3x C0 fc v v C = (dn, Cd) ∧ L_232tx R0 fr 1 v1 v2 v3 v4 v R = md_fin f dn Rd ∧ 0 ≤ dn.toInt ∧ 0 ≤ f.toInt ∧ f.toInt ≤ 1 ∧ mr_S (B + 99 * (m : Int)) kc Cd Rd ∧ pj_Inv Cd ∧ pj_Inv Rd ∧ pj_kpt md_WC C Cd ∧ pj_kpt md_WD R Rd := by
  have k0 : (Int32.ofInt 0).toInt = 0 := by decide
  have k1 : (Int32.ofInt 1).toInt = 1 := by decide
  intro m
  induction m with
  | zero =>
    intro fc fr v B C R h hRI hB hS hQ h0 h49 h39 hv hd hfc hfr
    obtain ⟨f, rfl⟩ : ∃ z, fc = z + 1 := ⟨fc - 1, by omega⟩
    obtain ⟨g, rfl⟩ : ∃ z, fr = z + 1 := ⟨fr - 1, by omega⟩
    rw [L_3x_s0, L_232tx_s1]
    simp only [pj_nm_x, pj_bd_x]
    rw [pj_b_geT (show (pj_fi C 49 3).toInt ≤ v.toInt by omega), pj_cT, pj_b_geT (show (pj_fi R 171 39).toInt ≤ v.toInt by omega), pj_cT]
    refine ⟨v, Int32.ofInt 0, C, R, rfl, ?_, h0, by omega, by omega, mr_rowB hS (by omega), h.1, h.2.1, pj_kpt_r _ _, pj_kpt_r _ _⟩
    unfold md_fin md_G
    rfl
  | succ m ih =>
    intro fc fr v B C R h hRI hB hS hQ h0 h49 h39 hv hd hfc hfr
    obtain ⟨f, rfl⟩ : ∃ z, fc = z + 1 := ⟨fc - 1, by omega⟩
    obtain ⟨g, rfl⟩ : ∃ z, fr = z + 1 := ⟨fr - 1, by omega⟩
    obtain ⟨j, hj⟩ : ∃ j : Nat, v.toInt = (j : Int) := ⟨v.toInt.toNat, by omega⟩
    have s1 : (v + Int32.ofInt 1).toInt = v.toInt + 1 := by rw [pj_addI (by omega) (by omega), k1]
    rw [L_3x_s0, L_232tx_s1]
    simp only [pj_nm_x, pj_bd_x]
    rw [pj_b_geF (show v.toInt < (pj_fi C 49 3).toInt by omega), pj_cF, pj_b_geF (show v.toInt < (pj_fi R 171 39).toInt by omega), pj_cF, pj_b_neF (show v.toInt = v.toInt from rfl), pj_cF]
    obtain ⟨al, hS1⟩ := md_one h hRI (by omega) hS hQ v j hj (hd j (by omega))
    obtain ⟨i1, q1, -⟩ := fr_4x C h.1 v (by omega)
    obtain ⟨i2, q2, -⟩ := fr_231x R h.2.1 v (by omega) hRI
    have q1 := pj_kpt_s (K2 := md_WC) q1 rfl
    have q2 := pj_kpt_s (K2 := md_WD) q2 rfl
    have c39 : pj_fi (F_231x R v).2 171 39 = pj_fi R 171 39 := q2.1 (171, 39) (by decide)
    rcases al with ⟨x1, y1⟩ | ⟨x0, y0⟩
    · rw [pj_b0_eqF (show ¬ (F_4x C v).1.toInt = 0 by omega), pj_cF, pj_b0_eqF (show ¬ (F_231x R v).1.toInt = 0 by omega), pj_cF]
      have hA := mr_Ak h i1 q1 rfl (q1.1 (21, 0) (by decide)) (q1.1 (21, 5) (by decide)) i2 q2 rfl
      obtain ⟨dn, f', Cd, Rd, b1, b2, b3, b4, b5, b6, b7, b8, b9, b10⟩ := ih f g (v + Int32.ofInt 1) (B + 99) (F_4x C v).2 (F_231x R v).2 hA (pj_RI_k hRI q2 rfl) (by omega) hS1 (mr_Qk hQ (q1.1 (27, 1) (by decide)) (q1.2.1.2 (27, 0) (by decide)) (q1.2.2 28 (by decide)) (q1.2.2 29 (by decide)) (q2.1 (171, 26) (by decide)) (q2.2.2 182 (by decide))) (by omega) (by rw [q1.1 (49, 3) (by decide)]; exact h49) (by rw [c39]; exact h39) (by omega) (fun t ht => md_ak (hd t ht) (q1.2.2 50 (by decide) t) (q1.2.2 51 (by decide) t) (q1.2.2 52 (by decide) t) (q2.2.2 187 (by decide) t) (q2.2.2 188 (by decide) t) (q2.2.2 189 (by decide) t)) (by omega) (by omega)
      exact ⟨dn, f', Cd, Rd, b1, b2, b3, b4, b5, mr_rowB b6 (by omega), b7, b8, pj_kpt_t q1 b9, pj_kpt_t q2 b10⟩
    · rw [pj_b0_eqT x0, pj_cT, pj_b0_eqT y0, pj_cT, c39, pj_b_geF (show v.toInt < (pj_fi R 171 39).toInt by omega), pj_cF, mr_z32]
      obtain ⟨f2, rfl⟩ : ∃ z, f = z + 1 := ⟨f - 1, by omega⟩
      refine ⟨v, Int32.ofInt 1, (F_4x C v).2, (F_231x R v).2, ?_, ?_, h0, by omega, by omega, mr_rowB hS1 (by omega), i1, i2, q1, q2⟩
      · rw [L_3x_s0]
        simp only [pj_nm_x]
        rw [pj_b_neT (show ¬ v.toInt = (v + Int32.ofInt 1).toInt by omega), pj_cT]
        cases pj_c1 .ge (v + Int32.ofInt 1) (pj_fi (F_4x C v).2 49 3) <;> rfl
      · unfold md_fin md_G
        rfl
