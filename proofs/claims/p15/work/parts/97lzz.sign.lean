/-! SIGNS COME BEHIND THE TEXT, ON BOTH SIDES -/
theorem tx_255 : ∀ i : Fin 32, 8 ≤ i.val → (255#32).getLsbD i.val = false := by decide
theorem tx_shc (w : Int32) (u : UInt32) (b m : Int32) (s : Nat) (hs : s ≤ 24) (hu : (u.toBitVec % 32#32).toNat = s) (hb : (b.toBitVec.smod 32#32).toNat = s) (hm : m.toBitVec = 255#32) : ((w.toUInt32 >>> u).toInt32 &&& m) = ((w >>> b) &&& m) := by
  apply Int32.toBitVec_inj.mp
  have e1 : ((w.toUInt32 >>> u).toInt32 &&& m).toBitVec = (w.toBitVec >>> s) &&& 255#32 := by
    show (w.toBitVec >>> (u.toBitVec % 32#32).toNat) &&& m.toBitVec = _
    rw [hm, hu]
  have e2 : ((w >>> b) &&& m).toBitVec = (w.toBitVec.sshiftRight s) &&& 255#32 := by
    show (w.toBitVec.sshiftRight (b.toBitVec.smod 32#32).toNat) &&& m.toBitVec = _
    rw [hm, hb]
  rw [e1, e2]
  apply BitVec.eq_of_getLsbD_eq
  intro i hi
  rw [BitVec.getLsbD_and, BitVec.getLsbD_and]
  by_cases h8 : i < 8
  · rw [BitVec.getLsbD_ushiftRight, BitVec.getLsbD_sshiftRight, if_pos (show s + i < 32 by omega), decide_eq_false (show ¬ 32 ≤ i by omega)]
    rfl
  · rw [tx_255 ⟨i, hi⟩ (by show 8 ≤ i; omega), Bool.and_false, Bool.and_false]
theorem tx_i3 {C : pj_G} (iC : pj_Inv C) (j : Nat) (x : Int32) (hx : 0 ≤ x.toInt ∧ x.toInt ≤ 255) : pj_Inv (pj_wa C 3 j x) := pj_Inv_wa iC rfl (fun q hq => by cases hq; exact ⟨by show (0 : Int) ≤ _; omega, by show _ ≤ (255 : Int); omega, by show _ ≤ (0 : Int) ∨ (0 : Int) ≤ _; omega⟩) (fun n hn => by cases hn)
theorem tx_i180 {C : pj_G} (iC : pj_Inv C) (j : Nat) (x : Int32) (hx : 0 ≤ x.toInt ∧ x.toInt ≤ 255) : pj_Inv (pj_wa C 180 j x) := pj_Inv_wa iC rfl (fun q hq => by cases hq; exact ⟨by show (0 : Int) ≤ _; omega, by show _ ≤ (255 : Int); omega, by show _ ≤ (0 : Int) ∨ (0 : Int) ≤ _; omega⟩) (fun n hn => by cases hn)
theorem tx_iz {C : pj_G} (iC : pj_Inv C) (x : Int32) (hx : 0 ≤ x.toInt ∧ x.toInt ≤ 80) : pj_Inv (pj_wv C 2 1 (.int x)) := pj_Inv_wi iC (ci := 9) rfl (fun q hq => by cases hq; exact ⟨by show (0 : Int) ≤ _; omega, by show _ ≤ (80 : Int); omega⟩)
theorem tx_sgl (G0 R0 : pj_G) (w : Int32) (s : Int) (s0 : 0 ≤ s) (s76 : s ≤ 76) : ∀ (m f g : Nat) (v v2 : Int32) (C R : pj_G), pj_Inv C → pj_Inv R → (pj_fi C 2 1).toInt + m = s + 4 → (pj_fi R 171 16).toInt = s → v.toInt = 8 * m - 8 → v2.toInt + m = 4 → m ≤ 4 → m < f → m < g → (∀ j : Nat, (j : Int) < (pj_fi C 2 1).toInt → pj_ai C 3 j = pj_ai R 180 j) → ∀ j : Nat, (j : Int) < s + 4 → pj_ai (L_77tx G0 w f v C).2 3 j = pj_ai (L_180tx R0 w g v2 R).2 180 j := by
  have k1 : (Int32.ofInt 1).toInt = 1 := by decide
  have k4 : (Int32.ofInt 4).toInt = 4 := by decide
  have k8 : (((Int8.ofInt 8).toInt32)).toInt = 8 := by decide
  have k24 : (((Int8.ofInt 24).toInt32)).toInt = 24 := by decide
  have km8 : (Int32.ofInt (-8)).toInt = -8 := by decide
  have k255 : ((Int16.ofInt 255).toInt32).toInt = 255 := by decide
  intro m
  induction m with
  | zero =>
    intro f g v v2 C R iC iR hc hr hv hv2 hm hf hg he j hj
    obtain ⟨f, rfl⟩ : ∃ q, f = q + 1 := ⟨f - 1, by omega⟩
    obtain ⟨g, rfl⟩ : ∃ q, g = q + 1 := ⟨g - 1, by omega⟩
    rw [L_77tx_s0, L_180tx_s0]
    simp only [pj_nm_x]
    rw [pj_b0_ltT (show v.toInt < 0 by omega), pj_cT, pj_b_geT (show (Int32.ofInt 4).toInt ≤ v2.toInt by omega), pj_cT]
    show pj_ai C 3 j = pj_ai (pj_wv R 171 16 _) 180 j
    rw [pj_ai_wv]
    exact he j (by omega)
  | succ m ih =>
    intro f g v v2 C R iC iR hc hr hv hv2 hm hf hg he j hj
    obtain ⟨f, rfl⟩ : ∃ q, f = q + 1 := ⟨f - 1, by omega⟩
    obtain ⟨g, rfl⟩ : ∃ q, g = q + 1 := ⟨g - 1, by omega⟩
    have sv : (v + Int32.ofInt (-8)).toInt = v.toInt - 8 := by rw [pj_addI (by omega) (by omega), km8]; omega
    have sv2 : (v2 + Int32.ofInt 1).toInt = v2.toInt + 1 := by rw [pj_addI (by omega) (by omega), k1]
    have nv : (v + Int32.ofInt (-8)).toInt = 8 * (m : Int) - 8 := by rw [sv, hv]; omega
    have nv2 : (v2 + Int32.ofInt 1).toInt + (m : Int) = 4 := by rw [sv2]; omega
    have n3 : m ≤ 4 := by omega
    have n4 : m < f := by omega
    have n5 : m < g := by omega
    have nc : (pj_fi C 2 1).toInt + 1 + (m : Int) = s + 4 := by omega
    have ss : (pj_fi C 2 1 + Int32.ofInt 1).toInt = (pj_fi C 2 1).toInt + 1 := by rw [pj_addI (by omega) (by omega), k1]
    have si : (pj_fi R 171 16 + v2).toInt = (pj_fi C 2 1).toInt := by rw [pj_addI (by omega) (by omega)]; omega
    have m8 : (((Int8.ofInt 8).toInt32) * v2).toInt = 8 * v2.toInt := pj_mulL k8 (by omega) (by omega)
    have sh : (((Int8.ofInt 24).toInt32) - ((Int8.ofInt 8).toInt32) * v2).toInt = v.toInt := by rw [pj_subI (by omega) (by omega), k24, m8]; omega
    have eh : ((Int8.ofInt 24).toInt32) - ((Int8.ofInt 8).toInt32) * v2 = v := Int32.toInt_inj.mp sh
    have eb : ((w.toUInt32 >>> (v.toUInt32 &&& Int32.toUInt32 31)).toInt32 &&& (Int16.ofInt 255).toInt32) = ((w >>> (v &&& 31)) &&& (Int16.ofInt 255).toInt32) := by
      rcases (show m = 0 ∨ m = 1 ∨ m = 2 ∨ m = 3 by omega) with rfl | rfl | rfl | rfl
      · have e : v = Int32.ofInt 0 := Int32.toInt_inj.mp (by rw [hv]; decide)
        subst e
        exact tx_shc w _ _ _ 0 (by decide) (by decide) (by decide) (by decide)
      · have e : v = Int32.ofInt 8 := Int32.toInt_inj.mp (by rw [hv]; decide)
        subst e
        exact tx_shc w _ _ _ 8 (by decide) (by decide) (by decide) (by decide)
      · have e : v = Int32.ofInt 16 := Int32.toInt_inj.mp (by rw [hv]; decide)
        subst e
        exact tx_shc w _ _ _ 16 (by decide) (by decide) (by decide) (by decide)
      · have e : v = Int32.ofInt 24 := Int32.toInt_inj.mp (by rw [hv]; decide)
        subst e
        exact tx_shc w _ _ _ 24 (by decide) (by decide) (by decide) (by decide)
    rw [L_77tx_s0, L_180tx_s0]
    simp only [pj_nm_x]
    rw [pj_b0_ltF (show 0 ≤ v.toInt by omega), pj_cF, pj_b_geF (show v2.toInt < (Int32.ofInt 4).toInt by omega), pj_cF, eh, eb]
    have rx : 0 ≤ ((w >>> (v &&& 31)) &&& (Int16.ofInt 255).toInt32).toInt ∧ ((w >>> (v &&& 31)) &&& (Int16.ofInt 255).toInt32).toInt ≤ 255 := by
      have := pj_andI (x := w >>> (v &&& 31)) (y := (Int16.ofInt 255).toInt32) (by omega)
      omega
    generalize (w >>> (v &&& 31)) &&& (Int16.ofInt 255).toInt32 = x at *
    have j1 := tx_i3 iC (pj_fi C 2 1).toInt.toNat x rx
    have j2 := tx_iz j1 (pj_fi C 2 1 + Int32.ofInt 1) (by omega)
    have j3 := tx_i180 iR (pj_fi R 171 16 + v2).toInt.toNat x rx
    have e1 : pj_fi (pj_wv (pj_wa C 3 (pj_fi C 2 1).toInt.toNat x) 2 1 (.int (pj_fi C 2 1 + Int32.ofInt 1))) 2 1 = pj_fi C 2 1 + Int32.ofInt 1 := pj_fi_wi j1.1 (ci := 9) rfl _
    have e1' : (pj_fi (pj_wv (pj_wa C 3 (pj_fi C 2 1).toInt.toNat x) 2 1 (.int (pj_fi C 2 1 + Int32.ofInt 1))) 2 1).toInt = (pj_fi C 2 1).toInt + 1 := by rw [e1, ss]
    have e2 : pj_fi (pj_wa R 180 (pj_fi R 171 16 + v2).toInt.toNat x) 171 16 = pj_fi R 171 16 := pj_fi_wa _ _ _ _ _ _
    have e2' : (pj_fi (pj_wa R 180 (pj_fi R 171 16 + v2).toInt.toNat x) 171 16).toInt = s := by rw [e2, hr]
    have he' : ∀ i : Nat, (i : Int) < (pj_fi (pj_wv (pj_wa C 3 (pj_fi C 2 1).toInt.toNat x) 2 1 (.int (pj_fi C 2 1 + Int32.ofInt 1))) 2 1).toInt → pj_ai (pj_wv (pj_wa C 3 (pj_fi C 2 1).toInt.toNat x) 2 1 (.int (pj_fi C 2 1 + Int32.ofInt 1))) 3 i = pj_ai (pj_wa R 180 (pj_fi R 171 16 + v2).toInt.toNat x) 180 i := by
      intro i hi
      rw [e1'] at hi
      rw [pj_ai_wv]
      by_cases q : i = (pj_fi C 2 1).toInt.toNat
      · rw [q, pj_ai_wa_eq iC.1 rfl, si, pj_ai_wa_eq iR.1 rfl]
      · rw [pj_ai_wa_nj _ _ _ _ _ q, pj_ai_wa_nj _ _ _ _ _ (by rw [si]; exact q)]
        exact he i (by omega)
    exact ih f g (v + Int32.ofInt (-8)) (v2 + Int32.ofInt 1) (pj_wv (pj_wa C 3 (pj_fi C 2 1).toInt.toNat x) 2 1 (.int (pj_fi C 2 1 + Int32.ofInt 1))) (pj_wa R 180 (pj_fi R 171 16 + v2).toInt.toNat x) j2 j3 (by rw [e1']; exact nc) e2' nv nv2 n3 n4 n5 he' j hj
theorem tx_sign {G : pj_G} (hI : pj_Inv G) (hs : (pj_fi G 2 1).toInt = (pj_fi G 171 16).toInt) (ht : ∀ j : Nat, (j : Int) < (pj_fi G 2 1).toInt → pj_ai G 3 j = pj_ai G 180 j) (w : Int32) : ∀ j : Nat, (j : Int) < (pj_fi (F_180tx (F_117tx G w).2 w).2 2 1).toInt → pj_ai (F_180tx (F_117tx G w).2 w).2 3 j = pj_ai (F_180tx (F_117tx G w).2 w).2 180 j := by
  have k0 : (Int32.ofInt 0).toInt = 0 := by decide
  have k24 : (((Int8.ofInt 24).toInt32)).toInt = 24 := by decide
  have k76 : (((Int8.ofInt 76).toInt32)).toInt = 76 := by decide
  obtain ⟨i1, k1, x1, x2⟩ := fr_117tx G hI w
  obtain ⟨i2, k2, r2, x3, x4⟩ := fr_180tx (F_117tx G w).2 i1 w
  have rS : (0 : Int) ≤ (pj_fi G 2 1).toInt ∧ (pj_fi G 2 1).toInt ≤ 80 := hI.2.1 2 1 (0, 80) rfl
  have t16 : pj_fi (F_117tx G w).2 171 16 = pj_fi G 171 16 := k1.1 (171, 16) (by decide)
  have a180 : ∀ j, pj_ai (F_117tx G w).2 180 j = pj_ai G 180 j := fun j => k1.2.2 180 (by decide) j
  have b21 : pj_fi (F_180tx (F_117tx G w).2 w).2 2 1 = pj_fi (F_117tx G w).2 2 1 := k2.1 (2, 1) (by decide)
  have b3 : ∀ j, pj_ai (F_180tx (F_117tx G w).2 w).2 3 j = pj_ai (F_117tx G w).2 3 j := fun j => k2.2.2 3 (by decide) j
  intro j hj
  rw [b21] at hj
  rw [b3]
  have i0 : pj_Inv (pj_wv (F_117tx G w).2 171 0 (.int (Int32.ofInt 0))) := pj_Inv_wi i1 (ci := 12) rfl (fun q hq => by cases hq)
  have e0 : pj_fi (pj_wv (F_117tx G w).2 171 0 (.int (Int32.ofInt 0))) 171 16 = pj_fi G 171 16 := by rw [pj_fi_wv_ne _ _ _ _ _ _ (by decide), t16]
  have e180 : ∀ j, pj_ai (pj_wv (F_117tx G w).2 171 0 (.int (Int32.ofInt 0))) 180 j = pj_ai G 180 j := fun j => by rw [pj_ai_wv, a180]
  have eM : F_180tx (F_117tx G w).2 w = cond (pj_c1 .le (pj_fi (F_117tx G w).2 171 16) ((Int8.ofInt 76).toInt32)) (L_180tx (F_117tx G w).2 w 5 (Int32.ofInt 0) (pj_wv (F_117tx G w).2 171 0 (.int (Int32.ofInt 0)))) (Int32.ofInt (-1), pj_wv (F_117tx G w).2 171 0 (.int (Int32.ofInt 0))) := by
    rw [F_180tx_e]
    simp only [pj_nm_x]
  have eC : (F_117tx G w).2 = (cond (pj_c1 .le (pj_fi G 2 1) ((Int8.ofInt 76).toInt32)) (L_77tx G w 41 ((Int8.ofInt 24).toInt32) G) (Int32.ofInt (-1), G)).2 := by
    rw [F_117tx_e, F_77tx_e]
    simp only [pj_nm_x, pj_bd_x]
  rw [eM]
  by_cases q : (pj_fi G 2 1).toInt ≤ 76
  · have x1 := x1 q
    rw [pj_b_leT (show (pj_fi (F_117tx G w).2 171 16).toInt ≤ (((Int8.ofInt 76).toInt32)).toInt by rw [t16]; omega), pj_cT]
    have z := tx_sgl G (F_117tx G w).2 w (pj_fi G 2 1).toInt rS.1 q 4 41 5 ((Int8.ofInt 24).toInt32) (Int32.ofInt 0) G (pj_wv (F_117tx G w).2 171 0 (.int (Int32.ofInt 0))) hI i0 (by omega) (by rw [e0]; exact hs.symm) (by omega) (by omega) (by omega) (by omega) (by omega) (fun i hi => by rw [e180]; exact ht i hi) j (by omega)
    rw [← z]
    rw [eC, pj_b_leT (show (pj_fi G 2 1).toInt ≤ (((Int8.ofInt 76).toInt32)).toInt by omega), pj_cT]
  · have x2 := x2 (by omega)
    rw [pj_b_leF (show (((Int8.ofInt 76).toInt32)).toInt < (pj_fi (F_117tx G w).2 171 16).toInt by rw [t16]; omega), pj_cF]
    show pj_ai (F_117tx G w).2 3 j = pj_ai (pj_wv (F_117tx G w).2 171 0 (.int (Int32.ofInt 0))) 180 j
    rw [e180]
    have : pj_ai (F_117tx G w).2 3 j = pj_ai G 3 j := by rw [eC, pj_b_leF (show (((Int8.ofInt 76).toInt32)).toInt < (pj_fi G 2 1).toInt by omega), pj_cF]
    rw [this]
    exact ht j (by omega)
