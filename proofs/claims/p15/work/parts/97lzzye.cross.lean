/-! SETS AS BITS -/
def nt_b (s : Int32) (i : Nat) : Bool := s.toBitVec.getLsbD i
theorem nt_or (s t : Int32) (i : Nat) : nt_b (s ||| t) i = (nt_b s i || nt_b t i) := by
  unfold nt_b
  rw [Int32.toBitVec_or, BitVec.getLsbD_or]
theorem nt_and (s t : Int32) (i : Nat) : nt_b (s &&& t) i = (nt_b s i && nt_b t i) := by
  unfold nt_b
  rw [Int32.toBitVec_and, BitVec.getLsbD_and]
theorem nt_x {s t : Int32} (h : ∀ i, i < 32 → nt_b s i = nt_b t i) : s = t := by
  apply Int32.toBitVec_inj.mp
  apply BitVec.eq_of_getLsbD_eq
  intro i hi
  exact h i hi
theorem nt_ge (s : Int32) {i : Nat} (h : 32 ≤ i) : nt_b s i = false := BitVec.getLsbD_of_ge _ _ h
theorem nt_shk : ∀ a : Nat, a < 10 → ∀ i : Nat, i < 32 → (Int32.ofInt 1 <<< (Int32.ofInt a &&& 31)).toBitVec.getLsbD i = Nat.beq i a := by decide +kernel
theorem nt_int {a : Int32} (h0 : 0 ≤ a.toInt) : a = Int32.ofInt (a.toInt.toNat : Nat) := by
  rw [Int.toNat_of_nonneg h0]
  exact (Int32.ofInt_toInt a).symm
theorem nt_bne {i a : Nat} (h : ¬ i = a) : Nat.beq i a = false := by
  cases e : Nat.beq i a with
  | true => exact absurd (Nat.eq_of_beq_eq_true e) h
  | false => rfl
theorem nt_sh {a : Int32} (h0 : 0 ≤ a.toInt) (h9 : a.toInt ≤ 9) (i : Nat) : nt_b (Int32.ofInt 1 <<< (a &&& 31)) i = Nat.beq i a.toInt.toNat := by
  by_cases q : i < 32
  · have z := nt_shk a.toInt.toNat (by omega) i q
    rw [← nt_int h0] at z
    exact z
  · rw [nt_ge _ (by omega)]
    exact (nt_bne (by omega)).symm
theorem nt_shT {a : Int32} (h0 : 0 ≤ a.toInt) (h9 : a.toInt ≤ 9) (i : Nat) : nt_b (Int32.ofInt 1 <<< (a &&& 31)) i = true ↔ i = a.toInt.toNat := by
  rw [nt_sh h0 h9]
  exact ⟨Nat.eq_of_beq_eq_true, fun z => by rw [z]; exact Nat.beq_refl _⟩
theorem nt_has {s c : Int32} (h0 : 0 ≤ c.toInt) (h9 : c.toInt ≤ 9) : pj_c1 .ne ((s >>> (c &&& 31)) &&& Int32.ofInt 1) (Int32.ofInt 1) = !(nt_b s c.toInt.toNat) := by
  have k : pj_bit s c ↔ nt_b s c.toInt.toNat = true := pj_bit_i h0 h9
  cases e : nt_b s c.toInt.toNat with
  | true =>
    have b := k.mpr e
    unfold pj_bit at b
    rw [show (1 : Int32) = Int32.ofInt 1 by decide] at b
    exact pj_b_neF (congrArg Int32.toInt b)
  | false =>
    refine pj_b_neT (fun z => ?_)
    have b : pj_bit s c := pj_bit_of rfl (z.trans (by decide))
    have b := k.mp b
    rw [e] at b
    cases b
theorem nt_172 (G : pj_G) {s c : Int32} (h0 : 0 ≤ c.toInt) (h9 : c.toInt ≤ 9) : F_172cx G s c = cond (nt_b s c.toInt.toNat) (Int32.ofInt 1) (Int32.ofInt 0) := by
  rw [F_172cx_e]
  simp only [pj_nm_x]
  rw [nt_has h0 h9]
  cases nt_b s c.toInt.toNat <;> rfl
theorem nt_c0 (b : Bool) : pj_c1 .eq (cond b (Int32.ofInt 1) (Int32.ofInt 0)) 0 = !b := by
  cases b with
  | true => exact pj_b0_eqF (show ¬ (Int32.ofInt 1).toInt = 0 by decide)
  | false => exact pj_b0_eqT (show (Int32.ofInt 0).toInt = 0 by decide)
theorem nt_c1 (b : Bool) : pj_c1 .ne (cond b (Int32.ofInt 1) (Int32.ofInt 0)) 0 = b := by
  cases b with
  | true => exact pj_b0_neT (show ¬ (Int32.ofInt 1).toInt = 0 by decide)
  | false => exact pj_b0_neF (show (Int32.ofInt 0).toInt = 0 by decide)
theorem nt_o0 (x : Int32) : x ||| Int32.ofInt 0 = x := by
  apply Int32.toBitVec_inj.mp
  rw [Int32.toBitVec_or]
  show x.toBitVec ||| 0#32 = _
  simp
theorem nt_r3 {R : pj_G} (iR : pj_Inv R) (j : Nat) (h : j < 10) : 0 ≤ (pj_ai R 173 j).toInt ∧ (pj_ai R 173 j).toInt ≤ 9 := by
  have z : pj_in5 (0, 7, 0, 0) (pj_ai R 173 j) := iR.2.2.1 173 (10, 0, 7, 0, 0) rfl j h
  have z1 : (0 : Int) ≤ (pj_ai R 173 j).toInt := z.1
  have z2 : (pj_ai R 173 j).toInt ≤ 7 := z.2.1
  omega
theorem nt_r4 {R : pj_G} (iR : pj_Inv R) (j : Nat) (h : j < 10) : 0 ≤ (pj_ai R 174 j).toInt ∧ (pj_ai R 174 j).toInt ≤ 9 := by
  have z : pj_in5 (0, 7, 0, 0) (pj_ai R 174 j) := iR.2.2.1 174 (10, 0, 7, 0, 0) rfl j h
  have z1 : (0 : Int) ≤ (pj_ai R 174 j).toInt := z.1
  have z2 : (pj_ai R 174 j).toInt ≤ 7 := z.2.1
  omega
theorem nt_b0 (i : Nat) : nt_b (Int32.ofInt 0) i = false := by
  unfold nt_b
  rw [show (Int32.ofInt 0).toBitVec = 0#32 by decide]
  exact BitVec.getLsbD_zero
/-! ONE GOES BY A CROSSING, ON BOTH SIDES -/
theorem mr_70f (C : pj_G) (c : Int32) (h6 : (pj_fi C 21 0).toInt ≤ 6) : ∀ (m fu : Nat) (b : Int32), 0 ≤ b.toInt → (pj_fi C 21 0).toInt - b.toInt ≤ (m : Int) → m < fu → ((L_70_21x C c fu b).toInt = -1 ∧ ∀ j : Nat, b.toInt ≤ (j : Int) → (j : Int) < (pj_fi C 21 0).toInt → ¬ (pj_ai C 22 j = c ∧ (pj_ai C 23 j).toInt = 0)) ∨ ∃ n : Nat, (L_70_21x C c fu b).toInt = (n : Int) ∧ (n : Int) < (pj_fi C 21 0).toInt ∧ pj_ai C 22 n = c ∧ (pj_ai C 23 n).toInt = 0 := by
  have k1 : (Int32.ofInt 1).toInt = 1 := by decide
  have km : (Int32.ofInt (-1)).toInt = -1 := by decide
  intro m
  induction m with
  | zero =>
    intro fu b h0 hm hf
    obtain ⟨g, rfl⟩ : ∃ q, fu = q + 1 := ⟨fu - 1, by omega⟩
    rw [mr_70s, pj_b_geT (show (pj_fi C 21 0).toInt ≤ b.toInt by omega), pj_cT]
    exact .inl ⟨km, fun j h1 h2 => absurd h2 (by omega)⟩
  | succ m ih =>
    intro fu b h0 hm hf
    obtain ⟨g, rfl⟩ : ∃ q, fu = q + 1 := ⟨fu - 1, by omega⟩
    rw [mr_70s]
    by_cases q : (pj_fi C 21 0).toInt ≤ b.toInt
    · rw [pj_b_geT q, pj_cT]
      exact .inl ⟨km, fun j h1 h2 => absurd h2 (by omega)⟩
    · rw [pj_b_geF (show b.toInt < (pj_fi C 21 0).toInt by omega), pj_cF]
      have s : (b + Int32.ofInt 1).toInt = b.toInt + 1 := by rw [pj_addI (by omega) (by omega), k1]
      have next : ¬ (pj_ai C 22 b.toInt.toNat = c ∧ (pj_ai C 23 b.toInt.toNat).toInt = 0) → ((L_70_21x C c g (b + Int32.ofInt 1)).toInt = -1 ∧ ∀ j : Nat, b.toInt ≤ (j : Int) → (j : Int) < (pj_fi C 21 0).toInt → ¬ (pj_ai C 22 j = c ∧ (pj_ai C 23 j).toInt = 0)) ∨ ∃ n : Nat, (L_70_21x C c g (b + Int32.ofInt 1)).toInt = (n : Int) ∧ (n : Int) < (pj_fi C 21 0).toInt ∧ pj_ai C 22 n = c ∧ (pj_ai C 23 n).toInt = 0 := by
        intro hn
        rcases ih g (b + Int32.ofInt 1) (by omega) (by omega) (by omega) with ⟨a1, a2⟩ | a
        · refine .inl ⟨a1, fun j h1 h2 => ?_⟩
          by_cases z : (j : Int) = b.toInt
          · have zj : b.toInt.toNat = j := by omega
            rw [zj] at hn
            exact hn
          · exact a2 j (by omega) h2
        · exact .inr a
      cases w : pj_c1 .ne (pj_ai C 22 b.toInt.toNat) c with
      | true =>
        rw [pj_cT]
        exact next (fun z => pj_u_neT w (by rw [z.1]))
      | false =>
        rw [pj_cF]
        by_cases y : (pj_ai C 23 b.toInt.toNat).toInt = 0
        · rw [pj_b0_neF y, pj_cF]
          exact .inr ⟨b.toInt.toNat, by omega, by omega, Int32.toInt_inj.mp (pj_u_neF w), y⟩
        · rw [pj_b0_neT y, pj_cT]
          exact next (fun z => y z.2)
theorem mr_wh {R : pj_G} (iR : pj_Inv R) (j : Nat) (hj : j < 6) : -1 ≤ (pj_ai R 179 (4 * j)).toInt ∧ (pj_ai R 179 (4 * j)).toInt ≤ 9 := by
  have z : pj_cl (4 * j) (pj_ai R 179 (4 * j)) := iR.2.2.2 179 32 rfl (4 * j) (by omega)
  exact (z.1 (by omega)).1 (by omega)
theorem mr_207b {R : pj_G} (iR : pj_Inv R) (hr w : Int32) : ∀ (m fu : Nat) (x v : Int32), 0 ≤ v.toInt → (pj_fi R 171 5).toInt - v.toInt ≤ (m : Int) → m < fu → ∀ i : Nat, (nt_b (L_207x R hr w fu x v) i = true ↔ (nt_b x i = true ∨ ∃ j : Nat, v.toInt ≤ (j : Int) ∧ (j : Int) < (pj_fi R 171 5).toInt ∧ 0 ≤ (pj_ai R 179 (4 * j)).toInt ∧ (pj_ai R 179 (4 * j + 1)).toInt ≤ hr.toInt ∧ w.toInt ≤ (pj_ai R 179 (4 * j + 3)).toInt ∧ i = (pj_ai R 179 (4 * j)).toInt.toNat)) := by
  have k1 : (Int32.ofInt 1).toInt = 1 := by decide
  have r5 : (0 : Int) ≤ (pj_fi R 171 5).toInt ∧ (pj_fi R 171 5).toInt ≤ 6 := iR.2.1 171 5 (0, 6) rfl
  intro m
  induction m with
  | zero =>
    intro fu x v h0 hm hf i
    obtain ⟨g, rfl⟩ : ∃ q, fu = q + 1 := ⟨fu - 1, by omega⟩
    rw [L_207x_s0]
    simp only [pj_nm_x]
    rw [pj_b_geT (show (pj_fi R 171 5).toInt ≤ v.toInt by omega), pj_cT]
    exact ⟨.inl, fun z => z.elim id (fun ⟨j, h1, h2, _⟩ => absurd h2 (by omega))⟩
  | succ m ih =>
    intro fu x v h0 hm hf i
    obtain ⟨g, rfl⟩ : ∃ q, fu = q + 1 := ⟨fu - 1, by omega⟩
    rw [L_207x_s0]
    simp only [pj_nm_x]
    by_cases q : (pj_fi R 171 5).toInt ≤ v.toInt
    · rw [pj_b_geT q, pj_cT]
      exact ⟨.inl, fun z => z.elim id (fun ⟨j, h1, h2, _⟩ => absurd h2 (by omega))⟩
    · rw [pj_b_geF (show v.toInt < (pj_fi R 171 5).toInt by omega), pj_cF]
      have s : (v + Int32.ofInt 1).toInt = v.toInt + 1 := by rw [pj_addI (by omega) (by omega), k1]
      obtain ⟨n, hn⟩ : ∃ n : Nat, v.toInt = (n : Int) := ⟨v.toInt.toNat, by omega⟩
      obtain ⟨x0, x1, -, x3⟩ := mr_ix hn (by omega)
      obtain ⟨w1, w2⟩ := mr_wh iR n (by omega)
      rw [x0, x1, x3, nt_o0]
      have skip : ¬ (0 ≤ (pj_ai R 179 (4 * n)).toInt ∧ (pj_ai R 179 (4 * n + 1)).toInt ≤ hr.toInt ∧ w.toInt ≤ (pj_ai R 179 (4 * n + 3)).toInt) → (nt_b (L_207x R hr w g x (v + Int32.ofInt 1)) i = true ↔ (nt_b x i = true ∨ ∃ j : Nat, v.toInt ≤ (j : Int) ∧ (j : Int) < (pj_fi R 171 5).toInt ∧ 0 ≤ (pj_ai R 179 (4 * j)).toInt ∧ (pj_ai R 179 (4 * j + 1)).toInt ≤ hr.toInt ∧ w.toInt ≤ (pj_ai R 179 (4 * j + 3)).toInt ∧ i = (pj_ai R 179 (4 * j)).toInt.toNat)) := by
        intro hz
        rw [ih g x (v + Int32.ofInt 1) (by omega) (by omega) (by omega) i]
        refine ⟨fun z => z.imp id (fun ⟨j, h1, h2⟩ => ⟨j, by omega, h2⟩), fun z => z.imp id (fun ⟨j, h1, h2, h3, h4, h5, h6⟩ => ⟨j, ?_, h2, h3, h4, h5, h6⟩)⟩
        by_cases e : j = n
        · subst e
          exact absurd ⟨h3, h4, h5⟩ hz
        · omega
      by_cases a1 : (pj_ai R 179 (4 * n)).toInt < 0
      · rw [pj_b0_ltT a1, pj_cT]
        exact skip (fun z => absurd z.1 (by omega))
      · rw [pj_b0_ltF (show 0 ≤ (pj_ai R 179 (4 * n)).toInt by omega), pj_cF]
        by_cases a2 : (pj_ai R 179 (4 * n + 1)).toInt ≤ hr.toInt
        · rw [pj_b_gtF a2, pj_cF]
          by_cases a3 : w.toInt ≤ (pj_ai R 179 (4 * n + 3)).toInt
          · rw [pj_b_ltF a3, pj_cF, ih g _ (v + Int32.ofInt 1) (by omega) (by omega) (by omega) i, nt_or, Bool.or_eq_true, nt_shT (by omega) (by omega)]
            refine ⟨fun z => ?_, fun z => ?_⟩
            · rcases z with (z | z) | ⟨j, h1, h2⟩
              · exact .inl z
              · exact .inr ⟨n, by omega, by omega, by omega, a2, a3, z⟩
              · exact .inr ⟨j, by omega, h2⟩
            · rcases z with z | ⟨j, h1, h2, h3, h4, h5, h6⟩
              · exact .inl (.inl z)
              · by_cases e : j = n
                · subst e
                  exact .inl (.inr h6)
                · exact .inr ⟨j, by omega, h2, h3, h4, h5, h6⟩
          · rw [pj_b_ltT (show (pj_ai R 179 (4 * n + 3)).toInt < w.toInt by omega), pj_cT]
            exact skip (fun z => a3 z.2.2)
        · rw [pj_b_gtT (show hr.toInt < (pj_ai R 179 (4 * n + 1)).toInt by omega), pj_cT]
          exact skip (fun z => a2 z.2.1)
theorem mr_207 {R : pj_G} (iR : pj_Inv R) (hr w : Int32) (i : Nat) : nt_b (F_207x R hr w) i = true ↔ ∃ j : Nat, (j : Int) < (pj_fi R 171 5).toInt ∧ 0 ≤ (pj_ai R 179 (4 * j)).toInt ∧ (pj_ai R 179 (4 * j + 1)).toInt ≤ hr.toInt ∧ w.toInt ≤ (pj_ai R 179 (4 * j + 3)).toInt ∧ i = (pj_ai R 179 (4 * j)).toInt.toNat := by
  have k0 : (Int32.ofInt 0).toInt = 0 := by decide
  have r5 : (0 : Int) ≤ (pj_fi R 171 5).toInt ∧ (pj_fi R 171 5).toInt ≤ 6 := iR.2.1 171 5 (0, 6) rfl
  rw [F_207x_e, mr_207b iR hr w 6 7 (Int32.ofInt 0) (Int32.ofInt 0) (by omega) (by omega) (by decide) i, nt_b0]
  refine ⟨fun z => ?_, fun ⟨j, h⟩ => .inr ⟨j, by omega, h⟩⟩
  rcases z with z | ⟨j, h1, h2⟩
  · cases z
  · exact ⟨j, h2⟩
noncomputable def mr_gc (C : pj_G) (p c to : Int32) : Int32 × pj_G := cond (pj_c1 .eq (F_70_21x C c) (Int32.ofInt (-1))) ((Int8.ofInt (-3)).toInt32, C) (cond (pj_c1 .ge (pj_ai C 24 (F_70_21x C c).toInt.toNat) (pj_ai C 32 p.toInt.toNat)) (cond (pj_c1 .ne (pj_ai C 24 (F_70_21x C c).toInt.toNat) (pj_ai C 32 p.toInt.toNat)) (to, pj_wa C 26 p.toInt.toNat to) (to, pj_wa (pj_wa C 24 (F_70_21x C c).toInt.toNat (pj_ai C 24 (F_70_21x C c).toInt.toNat - Int32.ofInt 1)) 26 p.toInt.toNat to)) ((Int8.ofInt (-3)).toInt32, C))
noncomputable def mr_gx (R : pj_G) (p c d : Int32) : pj_G := pj_wa (pj_wa R 179 (Int32.ofInt 4 * F_206x R c (Int32.ofInt 1) + Int32.ofInt 3).toInt.toNat (pj_ai R 179 (Int32.ofInt 4 * F_206x R c (Int32.ofInt 1) + Int32.ofInt 3).toInt.toNat - d)) 179 (((Int8.ofInt 24).toInt32) + p).toInt.toNat (pj_ai R 173 c.toInt.toNat + pj_ai R 174 c.toInt.toNat - pj_ai R 179 (((Int8.ofInt 24).toInt32) + p).toInt.toNat)
noncomputable def mr_gr (R : pj_G) (p c : Int32) : Int32 × pj_G := cond (pj_c1 .ne (F_172cx R (F_207x R (Int32.ofInt 0) (pj_ai R 178 p.toInt.toNat)) c) 0) (cond (pj_c1 .ne (pj_ai R 179 (Int32.ofInt 4 * F_206x R c (Int32.ofInt 1) + Int32.ofInt 3).toInt.toNat) (pj_ai R 178 p.toInt.toNat)) (pj_ai (mr_gx R p c (Int32.ofInt 0)) 179 (((Int8.ofInt 24).toInt32) + p).toInt.toNat, mr_gx R p c (Int32.ofInt 0)) (pj_ai (mr_gx R p c (Int32.ofInt 1)) 179 (((Int8.ofInt 24).toInt32) + p).toInt.toNat, mr_gx R p c (Int32.ofInt 1))) ((Int8.ofInt (-3)).toInt32, R)
theorem mr_104 (C : pj_G) (p c : Int32) : F_104x C p c = cond (pj_c1 .eq (F_96x C p) 0) (Int32.ofInt (-1), C) (cond (pj_c1 .ne (F_94x C c) 0) (cond (pj_rb C 6 0 7) (cond (pj_c1 .ne (F_44_7x C c (pj_ai C 26 p.toInt.toNat)) (Int32.ofInt (-1))) (mr_gc C p c (F_44_7x C c (pj_ai C 26 p.toInt.toNat))) ((Int8.ofInt (-2)).toInt32, C)) (cond (pj_c1 .ne (F_44_14x C c (pj_ai C 26 p.toInt.toNat)) (Int32.ofInt (-1))) (mr_gc C p c (F_44_14x C c (pj_ai C 26 p.toInt.toNat))) ((Int8.ofInt (-2)).toInt32, C))) (Int32.ofInt (-1), C)) := by
  rw [F_104x_e]
  unfold mr_gc
  simp only [pj_nm_x]
theorem mr_223 (R : pj_G) (p c : Int32) : F_223x R p c = cond (pj_c1 .eq (F_179x R p) 0) (Int32.ofInt (-1), R) (cond (pj_c1 .ne (F_177x R c) 0) (cond (pj_c1 .eq (pj_ai R 179 (((Int8.ofInt 24).toInt32) + p).toInt.toNat) (pj_ai R 173 c.toInt.toNat)) (mr_gr R p c) (cond (pj_c1 .eq (pj_ai R 179 (((Int8.ofInt 24).toInt32) + p).toInt.toNat) (pj_ai R 174 c.toInt.toNat)) (mr_gr R p c) ((Int8.ofInt (-2)).toInt32, R))) (Int32.ofInt (-1), R)) := by
  have w3 : ∀ (X : pj_G) (j : Nat) (x : Int32) (i : Nat), pj_ai (pj_wa X 179 j x) 173 i = pj_ai X 173 i := fun X j x i => pj_ai_wa_ne _ _ _ _ _ _ (by decide)
  have w4 : ∀ (X : pj_G) (j : Nat) (x : Int32) (i : Nat), pj_ai (pj_wa X 179 j x) 174 i = pj_ai X 174 i := fun X j x i => pj_ai_wa_ne _ _ _ _ _ _ (by decide)
  have f0 : ∀ X, F_173x X (Int32.ofInt 0) = Int32.ofInt 0 := fun X => (mr_173 X).1
  have f1 : ∀ X, F_173x X (Int32.ofInt 1) = Int32.ofInt 1 := fun X => (mr_173 X).2
  have h2 : ∀ X s k, F_172bx X s k = F_172cx X s k := fun X s k => by rw [F_172bx_e, F_172cx_e]
  rw [F_223x_e]
  unfold mr_gr mr_gx
  simp only [pj_nm_x, w3, w4, f0, f1, h2]
theorem mr_across {C R : pj_G} (hV : mr_V C R) (c f : Int32) (hc : 0 ≤ c.toInt ∧ c.toInt < (pj_fi R 171 4).toInt) : ∀ x : Int32 × pj_G → Prop, ∀ (A : Int32 → Int32 × pj_G) (Z : Int32 × pj_G), x (cond (pj_c1 .ne (cond (pj_c1 .ne (pj_ai R 173 c.toInt.toNat) f) (cond (pj_c1 .ne (pj_ai R 174 c.toInt.toNat) f) (Int32.ofInt (-1)) (pj_ai R 173 c.toInt.toNat)) (pj_ai R 174 c.toInt.toNat)) (Int32.ofInt (-1))) (A (cond (pj_c1 .ne (pj_ai R 173 c.toInt.toNat) f) (cond (pj_c1 .ne (pj_ai R 174 c.toInt.toNat) f) (Int32.ofInt (-1)) (pj_ai R 173 c.toInt.toNat)) (pj_ai R 174 c.toInt.toNat))) Z) → x (cond (pj_rb C 6 0 7) (cond (pj_c1 .ne (F_44_7x C c f) (Int32.ofInt (-1))) (A (F_44_7x C c f)) Z) (cond (pj_c1 .ne (F_44_14x C c f) (Int32.ofInt (-1))) (A (F_44_14x C c f)) Z)) := by
  intro x A Z h
  rcases hV with v | v
  · obtain ⟨d1, d2, -, -⟩ := v.2.2.2.2 c.toInt.toNat (by omega)
    have e : F_44_7x C c f = cond (pj_c1 .ne (pj_ai R 173 c.toInt.toNat) f) (cond (pj_c1 .ne (pj_ai R 174 c.toInt.toNat) f) (Int32.ofInt (-1)) (pj_ai R 173 c.toInt.toNat)) (pj_ai R 174 c.toInt.toNat) := by
      rw [← d1, ← d2, F_44_7x_e]
      simp only [pj_nm_x]
    rw [pj_rb_t v.1, pj_cT, e]
    exact h
  · obtain ⟨d1, d2, -, -⟩ := v.2.2.2.2 c.toInt.toNat (by omega)
    have e : F_44_14x C c f = cond (pj_c1 .ne (pj_ai R 173 c.toInt.toNat) f) (cond (pj_c1 .ne (pj_ai R 174 c.toInt.toNat) f) (Int32.ofInt (-1)) (pj_ai R 173 c.toInt.toNat)) (pj_ai R 174 c.toInt.toNat) := by
      rw [← d1, ← d2, F_44_14x_e]
      simp only [pj_nm_x]
    rw [pj_rb_f v.1 rfl, pj_cF, e]
    exact h
theorem mr_goes {B kc : Int} {C R : pj_G} (h : mr_A kc C R) (hS : mr_S B kc C R) (p c to : Int32) (hp : 0 ≤ p.toInt ∧ p.toInt < (pj_fi C 21 5).toInt) (hc : 0 ≤ c.toInt ∧ c.toInt < kc) (hto : pj_ai R 173 c.toInt.toNat + pj_ai R 174 c.toInt.toNat - pj_ai R 179 (((Int8.ofInt 24).toInt32) + p).toInt.toNat = to) : (mr_gc C p c to).1 = (mr_gr R p c).1 ∧ mr_S B kc (mr_gc C p c to).2 (mr_gr R p c).2 := by
  have k0 : (Int32.ofInt 0).toInt = 0 := by decide
  have k1 : (Int32.ofInt 1).toInt = 1 := by decide
  have km : (Int32.ofInt (-1)).toInt = -1 := by decide
  have k24 : (((Int8.ofInt 24).toInt32)).toInt = 24 := by decide
  obtain ⟨⟨nb0, nb6⟩, ⟨np0, np6⟩, kc0, kc10⟩ := mr_nb h
  obtain ⟨iC, iR, hcn, hV, hL, hH, hk⟩ := h
  have hc5 := hcn.1
  obtain ⟨n, hn⟩ : ∃ n : Nat, p.toInt = (n : Int) := ⟨p.toInt.toNat, by omega⟩
  have nn : p.toInt.toNat = n := by omega
  have p24 : (((Int8.ofInt 24).toInt32) + p).toInt.toNat = 24 + n := by
    have : (((Int8.ofInt 24).toInt32) + p).toInt = 24 + p.toInt := by rw [pj_addI (by omega) (by omega), k24]
    omega
  have eH : pj_ai C 32 n = pj_ai R 178 n := hH n (by omega)
  obtain ⟨a1, -⟩ := mr_at2 iC iR hc5 hS c
  rw [p24] at hto
  have row0 := hS
  unfold mr_S at row0
  unfold mr_gc mr_gr mr_gx
  rw [nn, p24, hto, eH]
  have bit := mr_207 iR (Int32.ofInt 0) (pj_ai R 178 n) c.toInt.toNat
  rw [nt_172 R (by omega) (by omega), nt_c1]
  obtain ⟨oN, o2, o3⟩ := hS.2.2.2
  rcases mr_70f C c nb6 6 7 (Int32.ofInt 0) (by omega) (by omega) (by decide) with ⟨y1, y2⟩ | ⟨b, y1, y2, y3, y4⟩
  · -- none is there
    rw [← F_70_21x_e] at y1
    have nb : nt_b (F_207x R (Int32.ofInt 0) (pj_ai R 178 n)) c.toInt.toNat = false := by
      cases q : nt_b (F_207x R (Int32.ofInt 0) (pj_ai R 178 n)) c.toInt.toNat with
      | false => rfl
      | true =>
        obtain ⟨j, h1, h2, h3, h4, h5⟩ := bit.mp q
        obtain ⟨r1, r2, -, -⟩ := hS.1 j (by omega)
        rw [Nat.zero_add] at r1 r2
        have yt := mr_yet iR j (by omega)
        exact absurd ⟨r1.trans (Int32.toInt_inj.mp (by omega)), by rw [r2]; omega⟩ (y2 j (by omega) (by omega))
    rw [pj_b_eqT (show (F_70_21x C c).toInt = (Int32.ofInt (-1)).toInt by omega), pj_cT, nb, pj_cF]
    exact ⟨rfl, hS⟩
  · rw [← F_70_21x_e] at y1
    have b206 : (F_206x R c (Int32.ofInt 1)).toInt = (b : Int) := by rw [← a1]; exact y1
    obtain ⟨-, -, -, x3⟩ := mr_ix b206 (by omega)
    obtain ⟨r1, r2, r3, r4⟩ := hS.1 b y2
    rw [Nat.zero_add] at r1 r2 r4
    have e22 : pj_ai R 179 (4 * b) = c := r1.symm.trans y3
    have e24 : pj_ai C 24 b = pj_ai R 179 (4 * b + 3) := r4
    have yb : (F_70_21x C c).toInt.toNat = b := by omega
    have nbit : nt_b (F_207x R (Int32.ofInt 0) (pj_ai R 178 n)) c.toInt.toNat = decide ((pj_ai R 178 n).toInt ≤ (pj_ai R 179 (4 * b + 3)).toInt) := by
      by_cases z : (pj_ai R 178 n).toInt ≤ (pj_ai R 179 (4 * b + 3)).toInt
      · rw [decide_eq_true z]
        exact bit.mpr ⟨b, by omega, by rw [e22]; omega, by rw [← r2, y4]; omega, z, by rw [e22]⟩
      · rw [decide_eq_false z]
        cases q : nt_b (F_207x R (Int32.ofInt 0) (pj_ai R 178 n)) c.toInt.toNat with
        | false => rfl
        | true =>
          obtain ⟨j, h1, h2, h3, h4, h5⟩ := bit.mp q
          by_cases e : j = b
          · subst e
            exact absurd h4 z
          · have u := o3 j b (by omega) (by omega) e (by
              rw [Nat.zero_add, Nat.zero_add, e22]
              exact Int32.toInt_inj.mp (by omega))
            rw [Nat.zero_add] at u
            exact absurd u (by omega)
    rw [pj_b_eqF (show ¬ (F_70_21x C c).toInt = (Int32.ofInt (-1)).toInt by omega), pj_cF, nbit, yb, x3, e24]
    by_cases z : (pj_ai R 178 n).toInt ≤ (pj_ai R 179 (4 * b + 3)).toInt
    · rw [decide_eq_true z, pj_cT, pj_b_geT z, pj_cT]
      have s1 := mr_sa iC.1 (a := 24) rfl b (pj_ai R 179 (4 * b + 3) - Int32.ofInt 1)
      have s2 := mr_sa iR.1 (a := 179) rfl (4 * b + 3) (pj_ai R 179 (4 * b + 3) - Int32.ofInt 1)
      have s3 := mr_sa iR.1 (a := 179) rfl (4 * b + 3) (pj_ai R 179 (4 * b + 3) - Int32.ofInt 0)
      cases w : pj_c1 .ne (pj_ai R 179 (4 * b + 3)) (pj_ai R 178 n) with
      | true =>
        rw [pj_cT, pj_cT]
        refine ⟨(pj_ai_wa_eq s3 rfl).symm, ?_⟩
        have h2 : mr_row C 21 (pj_wa R 179 (4 * b + 3) (pj_ai R 179 (4 * b + 3) - Int32.ofInt 0)) 179 0 (pj_fi C 21 0).toInt (pj_fi C 21 5).toInt B kc := mr_SkR row0 (fun j _ => by
          by_cases e : j = 4 * b + 3
          · rw [e, pj_ai_wa_eq iR.1 rfl]
            apply Int32.toInt_inj.mp
            have := pj_i32 (pj_ai R 179 (4 * b + 3))
            rw [pj_subI (by omega) (by omega)]
            omega
          · exact pj_ai_wa_nj _ _ _ _ _ e) nb6 np6
        unfold mr_S
        rw [pj_fi_wa, pj_fi_wa]
        exact mr_S26 iC.1 s3 nb6 np6 h2 n (by omega) to
      | false =>
        rw [pj_cF, pj_cF]
        refine ⟨(pj_ai_wa_eq s2 rfl).symm, ?_⟩
        unfold mr_S
        rw [pj_fi_wa, pj_fi_wa, pj_fi_wa, pj_fi_wa]
        exact mr_S26 s1 s2 nb6 np6 (mr_S24 iC.1 iR.1 nb6 np6 row0 b (by omega) (pj_ai R 179 (4 * b + 3) - Int32.ofInt 1)) n (by omega) to
    · rw [decide_eq_false z, pj_cF, pj_b_geF (show (pj_ai R 179 (4 * b + 3)).toInt < (pj_ai R 178 n).toInt by omega), pj_cF]
      exact ⟨rfl, hS⟩
theorem mr_walk {B kc : Int} {C R : pj_G} (h : mr_A kc C R) (hS : mr_S B kc C R) (p c : Int32) : (F_104x C p c).1 = (F_223x R p c).1 ∧ mr_S B kc (F_104x C p c).2 (F_223x R p c).2 := by
  have k0 : (Int32.ofInt 0).toInt = 0 := by decide
  have km : (Int32.ofInt (-1)).toInt = -1 := by decide
  have k24 : (((Int8.ofInt 24).toInt32)).toInt = 24 := by decide
  obtain ⟨⟨nb0, nb6⟩, ⟨np0, np6⟩, kc0, kc10⟩ := mr_nb h
  have iR := h.2.1
  have hV := h.2.2.2.1
  have hc6 := h.2.2.1.2
  have hk := h.2.2.2.2.2.2
  obtain ⟨p1, p2⟩ := mr_96 (C := C) p
  obtain ⟨q1, q2⟩ := mr_179 iR p
  obtain ⟨u1, u2⟩ := mr_94 hV c
  obtain ⟨w1, w2⟩ := mr_177 iR c
  rw [mr_104, mr_223]
  by_cases hp : 0 ≤ p.toInt ∧ p.toInt < (pj_fi C 21 5).toInt
  · rw [pj_b0_eqF (show ¬ (F_96x C p).toInt = 0 by rw [p1 hp]; decide), pj_cF, pj_b0_eqF (show ¬ (F_179x R p).toInt = 0 by rw [q1 (by omega)]; decide), pj_cF]
    by_cases hc : 0 ≤ c.toInt ∧ c.toInt < (pj_fi R 171 4).toInt
    · rw [pj_b0_neT (show ¬ (F_94x C c).toInt = 0 by rw [u1 hc]; decide), pj_cT, pj_b0_neT (show ¬ (F_177x R c).toInt = 0 by rw [w1 hc]; decide), pj_cT]
      obtain ⟨n, hn⟩ : ∃ n : Nat, p.toInt = (n : Int) := ⟨p.toInt.toNat, by omega⟩
      have nn : p.toInt.toNat = n := by omega
      have p24 : (((Int8.ofInt 24).toInt32) + p).toInt.toNat = 24 + n := by
        have : (((Int8.ofInt 24).toInt32) + p).toInt = 24 + p.toInt := by rw [pj_addI (by omega) (by omega), k24]
        omega
      have e26 : pj_ai C 26 n = pj_ai R 179 (24 + n) := (hS.2.1 n (by omega)).trans (by rw [Nat.zero_add])
      obtain ⟨t1, t2⟩ := nt_r3 iR c.toInt.toNat (by omega)
      obtain ⟨t3, t4⟩ := nt_r4 iR c.toInt.toNat (by omega)
      refine mr_across hV c (pj_ai C 26 p.toInt.toNat) hc (fun X => X.1 = _ ∧ mr_S B kc X.2 _) (mr_gc C p c) _ ?_
      rw [nn, e26, p24]
      have go : ∀ to : Int32, pj_ai R 173 c.toInt.toNat + pj_ai R 174 c.toInt.toNat - pj_ai R 179 (24 + n) = to → (mr_gc C p c to).1 = (mr_gr R p c).1 ∧ mr_S B kc (mr_gc C p c to).2 (mr_gr R p c).2 := fun to hto => mr_goes h hS p c to hp (by omega) (by rw [p24]; exact hto)
      have ad : ∀ x y : Int32, 0 ≤ x.toInt → x.toInt ≤ 9 → 0 ≤ y.toInt → y.toInt ≤ 9 → x + y - x = y ∧ x + y - y = x := fun x y h1 h2 h3 h4 => by
        have s : (x + y).toInt = x.toInt + y.toInt := pj_addI (by omega) (by omega)
        refine ⟨Int32.toInt_inj.mp ?_, Int32.toInt_inj.mp ?_⟩
        · rw [pj_subI (by omega) (by omega)]
          omega
        · rw [pj_subI (by omega) (by omega)]
          omega
      by_cases z1 : (pj_ai R 179 (24 + n)).toInt = (pj_ai R 173 c.toInt.toNat).toInt
      · have e1 : pj_ai R 179 (24 + n) = pj_ai R 173 c.toInt.toNat := Int32.toInt_inj.mp z1
        rw [pj_b_eqT z1, pj_cT, pj_b_neF (show (pj_ai R 173 c.toInt.toNat).toInt = (pj_ai R 179 (24 + n)).toInt by omega), pj_cF, pj_b_neT (show ¬ (pj_ai R 174 c.toInt.toNat).toInt = (Int32.ofInt (-1)).toInt by omega), pj_cT]
        exact go _ (by rw [e1]; exact (ad _ _ t1 t2 t3 t4).1)
      · rw [pj_b_eqF z1, pj_cF, pj_b_neT (show ¬ (pj_ai R 173 c.toInt.toNat).toInt = (pj_ai R 179 (24 + n)).toInt by omega), pj_cT]
        by_cases z2 : (pj_ai R 179 (24 + n)).toInt = (pj_ai R 174 c.toInt.toNat).toInt
        · have e1 : pj_ai R 179 (24 + n) = pj_ai R 174 c.toInt.toNat := Int32.toInt_inj.mp z2
          rw [pj_b_eqT z2, pj_cT, pj_b_neF (show (pj_ai R 174 c.toInt.toNat).toInt = (pj_ai R 179 (24 + n)).toInt by omega), pj_cF, pj_b_neT (show ¬ (pj_ai R 173 c.toInt.toNat).toInt = (Int32.ofInt (-1)).toInt by omega), pj_cT]
          exact go _ (by rw [e1]; exact (ad _ _ t1 t2 t3 t4).2)
        · rw [pj_b_eqF z2, pj_cF, pj_b_neT (show ¬ (pj_ai R 174 c.toInt.toNat).toInt = (pj_ai R 179 (24 + n)).toInt by omega), pj_cT, pj_b_neF (show (Int32.ofInt (-1)).toInt = (Int32.ofInt (-1)).toInt from rfl), pj_cF]
          exact ⟨rfl, hS⟩
    · rw [pj_b0_neF (u2 hc), pj_cF, pj_b0_neF (w2 hc), pj_cF]
      exact ⟨rfl, hS⟩
  · rw [pj_b0_eqT (p2 hp), pj_cT, pj_b0_eqT (q2 (by omega)), pj_cT]
    exact ⟨rfl, hS⟩
theorem mr_cross {B kc : Int} {C R : pj_G} (h : mr_A kc C R) (hRI : pj_RI R) (hU15 : (pj_fi R 171 30).toInt ≤ 15) (hS : mr_S B kc C R) (hU : mr_U B kc C R) (hQ : mr_Q C R) (b c : Int32) : (F_130nx C b c).1 = (F_228x R b c).1 ∧ mr_S B kc (F_130nx C b c).2 (F_228x R b c).2 ∧ mr_U B kc (F_130nx C b c).2 (F_228x R b c).2 := by
  have iC := h.1
  have iR := h.2.1
  obtain ⟨n, hn, eN, hS1, hU1, rf, ra⟩ := mr_noted iC iR hU15 hS hU
  have i0 : pj_Inv (pj_wv R 171 0 (.int (Int32.ofInt 0))) := pj_Inv_wi iR (ci := 12) rfl (fun q hq => by cases hq)
  obtain ⟨i1, k1, -⟩ := fr_33nx C iC
  obtain ⟨i2, k2⟩ := fr_215x (pj_wv R 171 0 (.int (Int32.ofInt 0))) i0 (by rw [pj_fi_wv_ne _ _ _ _ _ _ (by decide)]; exact hU15)
  have c0 : pj_fi (F_33nx C) 21 0 = pj_fi C 21 0 := k1.1 (21, 0) (by decide)
  have c5 : pj_fi (F_33nx C) 21 5 = pj_fi C 21 5 := k1.1 (21, 5) (by decide)
  have k2' : pj_kpt ([(171, 0)], [171, 186], [186]) R (F_215x (pj_wv R 171 0 (.int (Int32.ofInt 0)))) := pj_kpt_t (pj_kpt_v (pj_kpt_r _ _) rfl) (pj_kpt_s k2 rfl)
  have hA := mr_Ak h i1 k1 rfl c0 c5 i2 k2' rfl
  have hQ1 : mr_Q (F_33nx C) (F_215x (pj_wv R 171 0 (.int (Int32.ofInt 0)))) := mr_Qk hQ (k1.1 (27, 1) (by decide)) (k1.2.1.2 (27, 0) (by decide)) (k1.2.2 28 (by decide)) (k1.2.2 29 (by decide)) (rf 26 (by decide)) (fun j => ra 182 j (by decide))
  have hR1 : pj_RI (F_215x (pj_wv R 171 0 (.int (Int32.ofInt 0)))) := pj_RI_k hRI k2' rfl
  obtain ⟨ey, hS2⟩ := mr_walk hA hS1 b c
  obtain ⟨i3, k3, -⟩ := fr_104x (F_33nx C) i1 b c
  obtain ⟨i4, k4⟩ := fr_223x (F_215x (pj_wv R 171 0 (.int (Int32.ofInt 0)))) i2 b c
  have hU2 := mr_Upk hU1 (mr_cUk k3 rfl) (mr_rUk k4 rfl)
  have u15 : (pj_fi (F_223x (F_215x (pj_wv R 171 0 (.int (Int32.ofInt 0)))) b c).2 171 30).toInt ≤ 15 := by
    have e : pj_fi (F_223x (F_215x (pj_wv R 171 0 (.int (Int32.ofInt 0)))) b c).2 171 30 = pj_fi (F_215x (pj_wv R 171 0 (.int (Int32.ofInt 0)))) 171 30 := k4.1 (171, 30) (by decide)
    rw [e, rf 30 (by decide)]
    exact hU15
  rw [F_130nx_e, F_228x_e]
  simp only [pj_nm_x, pj_bd_x]
  rw [F_217x_e]
  simp only [pj_bd_x]
  rw [← ey]
  by_cases q : 0 ≤ (F_104x (F_33nx C) b c).1.toInt
  · rw [pj_b0_ltF q, pj_cF, pj_b0_geT q, pj_cT]
    obtain ⟨h1, h2⟩ := mr_held i3 i4 u15 hS2 hU2 (F_104x (F_33nx C) b c).1
    dsimp only
    exact ⟨(mr_216 i4 u15 _).1.symm, h1, h2⟩
  · rw [pj_b0_ltT (show (F_104x (F_33nx C) b c).1.toInt < 0 by omega), pj_cT, pj_b0_geF (show (F_104x (F_33nx C) b c).1.toInt < 0 by omega), pj_cF, mr_34f]
    exact ⟨rfl, hS2, hU2.1⟩

