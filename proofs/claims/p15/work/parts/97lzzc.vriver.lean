/-! THE RIVER ON BOTH SIDES -/
theorem mr_sb {G : pj_G} (hS : pj_coks pj_tb G.1 = true) {a n : Nat} {l : List (List Nat)} (ht : pj_tat a = some (3, n, l)) (j : Nat) (x : Int32) : pj_coks pj_tb (pj_wa G a j x).1 = true := by
  obtain ⟨f, hg, hset⟩ := pj_t3_s hS ht
  rw [pj_wa_eq hg]
  exact hset _
theorem mr_be {G : pj_G} (hS : pj_coks pj_tb G.1 = true) {a n j : Nat} {l : List (List Nat)} {x : Int32} (ht : pj_tat a = some (3, n, l)) : pj_ai (pj_wa G a j x) a j = x := by
  obtain ⟨f, hg, -⟩ := pj_t3_s hS ht
  rw [pj_wa_eq hg]
  unfold pj_ai
  rw [pj_gp hg]
  show upd f j x j = x
  unfold upd
  exact if_pos rfl
theorem mr_37s (G0 : pj_G) (fu : Nat) (v : Int32) (G : pj_G) : L_37x G0 (fu + 1) v G = cond (pj_c1 .ge v (Int32.ofInt 3)) G (L_37x G0 fu (v + Int32.ofInt 1) (pj_wa G 56 v.toInt.toNat (vp_nar .boolean (Int32.ofInt 0)))) := by
  rw [L_37x_s0]
  simp only [pj_nm_x]
/-- nothing is kept any more -/
theorem mr_37 (G : pj_G) : F_37x G = pj_wa (pj_wa (pj_wa (pj_wv G 53 2 (.int (Int32.ofInt 0))) 56 0 (vp_nar .boolean (Int32.ofInt 0))) 56 1 (vp_nar .boolean (Int32.ofInt 0))) 56 2 (vp_nar .boolean (Int32.ofInt 0)) := by
  have a0 : pj_c1 .ge (Int32.ofInt 0) (Int32.ofInt 3) = false := by decide
  have a1 : pj_c1 .ge (Int32.ofInt 0 + Int32.ofInt 1) (Int32.ofInt 3) = false := by decide
  have a2 : pj_c1 .ge (Int32.ofInt 0 + Int32.ofInt 1 + Int32.ofInt 1) (Int32.ofInt 3) = false := by decide
  have a3 : pj_c1 .ge (Int32.ofInt 0 + Int32.ofInt 1 + Int32.ofInt 1 + Int32.ofInt 1) (Int32.ofInt 3) = true := by decide
  have b0 : (Int32.ofInt 0).toInt.toNat = 0 := by decide
  have b1 : (Int32.ofInt 0 + Int32.ofInt 1).toInt.toNat = 1 := by decide
  have b2 : (Int32.ofInt 0 + Int32.ofInt 1 + Int32.ofInt 1).toInt.toNat = 2 := by decide
  have e36 : F_36x G = pj_wv G 53 2 (.int (Int32.ofInt 0)) := by
    rw [F_36x_e]
    simp only [pj_nm_x]
  have e37 : F_37x G = L_37x G 4 (Int32.ofInt 0) (F_36x G) := by
    rw [F_37x_e]
    simp only [pj_nm_x]
  rw [e37, e36, mr_37s G 3, a0, pj_cF, mr_37s G 2, a1, pj_cF, mr_37s G 1, a2, pj_cF, mr_37s G 0, a3, pj_cT, b0, b1, b2]
def mr_Vr (r d : Nat) (C R : pj_G) : Prop := pj_fv C 6 0 = some (.ref r) ∧ pj_fv C 6 1 = some (.ref d) ∧ pj_fi C r 0 = pj_fi R 171 3 ∧ pj_fi C r 1 = pj_fi R 171 4 ∧ ∀ i : Nat, (i : Int) < (pj_fi R 171 4).toInt → pj_ai C (r + 1) i = pj_ai R 173 i ∧ pj_ai C (r + 2) i = pj_ai R 174 i ∧ pj_ai C (r + 3) i = pj_ai R 175 i ∧ pj_ai C (r + 4) i = pj_ai R 176 i
/-- the river that is, on both sides -/
def mr_V (C R : pj_G) : Prop := mr_Vr 7 14 C R ∨ mr_Vr 14 7 C R
theorem mr_Vk {r d : Nat} {C R C' R' : pj_G} (h : mr_Vr r d C R) (f0 : pj_fv C' 6 0 = pj_fv C 6 0) (f1 : pj_fv C' 6 1 = pj_fv C 6 1) (c0 : pj_fi C' r 0 = pj_fi C r 0) (c1 : pj_fi C' r 1 = pj_fi C r 1) (a1 : ∀ j, pj_ai C' (r + 1) j = pj_ai C (r + 1) j) (a2 : ∀ j, pj_ai C' (r + 2) j = pj_ai C (r + 2) j) (a3 : ∀ j, pj_ai C' (r + 3) j = pj_ai C (r + 3) j) (a4 : ∀ j, pj_ai C' (r + 4) j = pj_ai C (r + 4) j) (r3 : pj_fi R' 171 3 = pj_fi R 171 3) (r4 : pj_fi R' 171 4 = pj_fi R 171 4) (b1 : ∀ j, pj_ai R' 173 j = pj_ai R 173 j) (b2 : ∀ j, pj_ai R' 174 j = pj_ai R 174 j) (b3 : ∀ j, pj_ai R' 175 j = pj_ai R 175 j) (b4 : ∀ j, pj_ai R' 176 j = pj_ai R 176 j) : mr_Vr r d C' R' := by
  obtain ⟨h1, h2, h3, h4, h5⟩ := h
  refine ⟨f0.trans h1, f1.trans h2, by rw [c0, r3]; exact h3, by rw [c1, r4]; exact h4, fun i hi => ?_⟩
  rw [r4] at hi
  obtain ⟨z1, z2, z3, z4⟩ := h5 i hi
  rw [a1, a2, a3, a4, b1, b2, b3, b4]
  exact ⟨z1, z2, z3, z4⟩
/-- where neither side writes of it, the river stays -/
theorem mr_VC {W : pj_KT} {C C' R : pj_G} (h : mr_V C R) (k : pj_kpt W C C') (h1 : W.1.all (fun q => !(pj_mF [(6, 0), (6, 1), (7, 0), (7, 1), (14, 0), (14, 1)] q.1 q.2)) = true) (h2 : W.2.2.all (fun a => !(pj_mN [8, 9, 10, 11, 15, 16, 17, 18] a)) = true) : mr_V C' R := by
  have f : ∀ q : Nat × Nat, pj_mF [(6, 0), (6, 1), (7, 0), (7, 1), (14, 0), (14, 1)] q.1 q.2 = true → q ∉ W.1 := fun q hq hm => by
    have z := List.all_eq_true.mp h1 q hm
    rw [hq] at z
    cases z
  have g : ∀ a : Nat, pj_mN [8, 9, 10, 11, 15, 16, 17, 18] a = true → a ∉ W.2.2 := fun a ha hm => by
    have z := List.all_eq_true.mp h2 a hm
    rw [ha] at z
    cases z
  rcases h with h | h
  · exact .inl (mr_Vk h (k.2.1.2 (6, 0) (f _ rfl)) (k.2.1.2 (6, 1) (f _ rfl)) (k.1 (7, 0) (f _ rfl)) (k.1 (7, 1) (f _ rfl)) (k.2.2 8 (g _ rfl)) (k.2.2 9 (g _ rfl)) (k.2.2 10 (g _ rfl)) (k.2.2 11 (g _ rfl)) rfl rfl (fun _ => rfl) (fun _ => rfl) (fun _ => rfl) (fun _ => rfl))
  · exact .inr (mr_Vk h (k.2.1.2 (6, 0) (f _ rfl)) (k.2.1.2 (6, 1) (f _ rfl)) (k.1 (14, 0) (f _ rfl)) (k.1 (14, 1) (f _ rfl)) (k.2.2 15 (g _ rfl)) (k.2.2 16 (g _ rfl)) (k.2.2 17 (g _ rfl)) (k.2.2 18 (g _ rfl)) rfl rfl (fun _ => rfl) (fun _ => rfl) (fun _ => rfl) (fun _ => rfl))
theorem mr_VR {W : pj_KT} {C R R' : pj_G} (h : mr_V C R) (k : pj_kpt W R R') (h1 : W.1.all (fun q => !(pj_mF [(171, 3), (171, 4)] q.1 q.2)) = true) (h2 : W.2.2.all (fun a => !(pj_mN [173, 174, 175, 176] a)) = true) : mr_V C R' := by
  have f : ∀ q : Nat × Nat, pj_mF [(171, 3), (171, 4)] q.1 q.2 = true → q ∉ W.1 := fun q hq hm => by
    have z := List.all_eq_true.mp h1 q hm
    rw [hq] at z
    cases z
  have g : ∀ a : Nat, pj_mN [173, 174, 175, 176] a = true → a ∉ W.2.2 := fun a ha hm => by
    have z := List.all_eq_true.mp h2 a hm
    rw [ha] at z
    cases z
  rcases h with h | h
  · exact .inl (mr_Vk h rfl rfl rfl rfl (fun _ => rfl) (fun _ => rfl) (fun _ => rfl) (fun _ => rfl) (k.1 (171, 3) (f _ rfl)) (k.1 (171, 4) (f _ rfl)) (k.2.2 173 (g _ rfl)) (k.2.2 174 (g _ rfl)) (k.2.2 175 (g _ rfl)) (k.2.2 176 (g _ rfl)))
  · exact .inr (mr_Vk h rfl rfl rfl rfl (fun _ => rfl) (fun _ => rfl) (fun _ => rfl) (fun _ => rfl) (k.1 (171, 3) (f _ rfl)) (k.1 (171, 4) (f _ rfl)) (k.2.2 173 (g _ rfl)) (k.2.2 174 (g _ rfl)) (k.2.2 175 (g _ rfl)) (k.2.2 176 (g _ rfl)))
/-- the end of river() in the reference -/
theorem mr_193 (G : pj_G) : F_193x G = pj_wv (pj_wv G 171 30 (.int (Int32.ofInt 0))) 171 7 (.int (pj_fi G 171 7 + Int32.ofInt 1)) := by
  have e : pj_fi (pj_wv G 171 30 (.int (Int32.ofInt 0))) 171 7 = pj_fi G 171 7 := pj_fi_wv_ne _ _ _ _ _ _ (by decide)
  rw [F_193x_e]
  simp only [pj_nm_x]
  rw [e]
theorem mr_end_r {V : pj_G} (hS : pj_coks pj_tb V.1 = true) : pj_fi (mr_end V) 171 3 = pj_fi V 171 3 ∧ pj_fi (mr_end V) 171 4 = pj_fi V 171 4 ∧ (pj_fi (mr_end V) 171 5).toInt = 0 ∧ (pj_fi (mr_end V) 171 6).toInt = 0 ∧ pj_fi (mr_end V) 171 7 = pj_fi V 171 7 + Int32.ofInt 1 ∧ (pj_fi (mr_end V) 171 30).toInt = 0 ∧ (∀ a j, a ≠ 179 → pj_ai (mr_end V) a j = pj_ai V a j) ∧ pj_ai (mr_end V) 179 30 = Int32.ofInt 0 := by
  have k0 : (Int32.ofInt 0).toInt = 0 := by decide
  have b30 : ((Int8.ofInt 30).toInt32).toInt.toNat = 30 := by decide
  have b31 : ((Int8.ofInt 31).toInt32).toInt.toNat = 31 := by decide
  have s1 := mr_sv hS (a := 171) (ci := 12) (k := 5) rfl (Int32.ofInt 0)
  have s2 := mr_sv s1 (a := 171) (ci := 12) (k := 6) rfl (Int32.ofInt 0)
  have s3 := mr_sa s2 (a := 179) rfl 30 (Int32.ofInt 0)
  have s4 := mr_sa s3 (a := 179) rfl 31 (Int32.ofInt 0)
  have s5 := mr_sv s4 (a := 171) (ci := 12) (k := 30) rfl (Int32.ofInt 0)
  unfold mr_end
  rw [b30, b31, mr_193]
  refine ⟨?_, ?_, ?_, ?_, ?_, ?_, fun a j h => ?_, ?_⟩
  · rw [pj_fi_wv_ne _ _ _ _ _ _ (by decide), pj_fi_wv_ne _ _ _ _ _ _ (by decide), pj_fi_wa, pj_fi_wa, pj_fi_wv_ne _ _ _ _ _ _ (by decide), pj_fi_wv_ne _ _ _ _ _ _ (by decide)]
  · rw [pj_fi_wv_ne _ _ _ _ _ _ (by decide), pj_fi_wv_ne _ _ _ _ _ _ (by decide), pj_fi_wa, pj_fi_wa, pj_fi_wv_ne _ _ _ _ _ _ (by decide), pj_fi_wv_ne _ _ _ _ _ _ (by decide)]
  · rw [pj_fi_wv_ne _ _ _ _ _ _ (by decide), pj_fi_wv_ne _ _ _ _ _ _ (by decide), pj_fi_wa, pj_fi_wa, pj_fi_wv_ne _ _ _ _ _ _ (by decide), pj_fi_wi hS (a := 171) (ci := 12) (k := 5) rfl]
    exact k0
  · rw [pj_fi_wv_ne _ _ _ _ _ _ (by decide), pj_fi_wv_ne _ _ _ _ _ _ (by decide), pj_fi_wa, pj_fi_wa, pj_fi_wi s1 (a := 171) (ci := 12) (k := 6) rfl]
    exact k0
  · rw [pj_fi_wi s5 (a := 171) (ci := 12) (k := 7) rfl, pj_fi_wa, pj_fi_wa, pj_fi_wv_ne _ _ _ _ _ _ (by decide), pj_fi_wv_ne _ _ _ _ _ _ (by decide)]
  · rw [pj_fi_wv_ne _ _ _ _ _ _ (by decide), pj_fi_wi s4 (a := 171) (ci := 12) (k := 30) rfl]
    exact k0
  · rw [pj_ai_wv, pj_ai_wv, pj_ai_wa_ne _ _ _ _ _ _ h, pj_ai_wa_ne _ _ _ _ _ _ h, pj_ai_wv, pj_ai_wv]
  · rw [pj_ai_wv, pj_ai_wv, pj_ai_wa_nj _ _ _ _ _ (by decide), pj_ai_wa_eq s2 (a := 179) rfl]
def mr_ZC (C : pj_G) : Prop := (pj_fi C 21 0).toInt = 0 ∧ (pj_fi C 21 5).toInt = 0 ∧ (pj_fi C 21 7).toInt = 0 ∧ (pj_fi C 53 2).toInt = 0 ∧ ∀ i, i < 3 → pj_ai C 56 i = vp_nar .boolean (Int32.ofInt 0)
def mr_ZR (H R : pj_G) : Prop := (pj_fi R 171 5).toInt = 0 ∧ (pj_fi R 171 6).toInt = 0 ∧ pj_fi R 171 7 = pj_fi H 171 7 + Int32.ofInt 1 ∧ (pj_fi R 171 30).toInt = 0 ∧ pj_ai R 179 30 = Int32.ofInt 0
def mr_WC : pj_KT := ([(2, 1), (2, 2), (2, 3), (2, 4), (7, 0), (7, 1), (14, 0), (14, 1)], [2, 7, 8, 9, 10, 11, 14, 15, 16, 17, 18], [8, 9, 10, 11, 15, 16, 17, 18])
def mr_WR : pj_KT := ([(171, 0), (171, 16), (171, 17), (171, 18), (171, 19), (171, 21), (171, 22), (171, 23)], [171, 181], [181])
/-- the river read is the river (the other one, 14, was it) -/
theorem mr_set_7 {C : pj_G} (iC : pj_Inv C) (h0 : pj_fv C 6 0 = some (.ref 14)) (h1 : pj_fv C 6 1 = some (.ref 7)) : pj_fv (F_37x (F_90x C)) 6 0 = some (.ref 7) ∧ pj_fv (F_37x (F_90x C)) 6 1 = some (.ref 14) ∧ pj_fi (F_37x (F_90x C)) 7 0 = pj_fi C 7 0 ∧ pj_fi (F_37x (F_90x C)) 7 1 = pj_fi C 7 1 ∧ (∀ j, pj_ai (F_37x (F_90x C)) 8 j = pj_ai C 8 j ∧ pj_ai (F_37x (F_90x C)) 9 j = pj_ai C 9 j ∧ pj_ai (F_37x (F_90x C)) 10 j = pj_ai C 10 j ∧ pj_ai (F_37x (F_90x C)) 11 j = pj_ai C 11 j) ∧ (pj_fi (F_37x (F_90x C)) 21 0).toInt = 0 ∧ (pj_fi (F_37x (F_90x C)) 21 5).toInt = 0 ∧ (pj_fi (F_37x (F_90x C)) 21 7).toInt = 0 ∧ (pj_fi (F_37x (F_90x C)) 53 2).toInt = 0 ∧ (∀ i, i < 3 → pj_ai (F_37x (F_90x C)) 56 i = vp_nar .boolean (Int32.ofInt 0)) := by
  have k0 : (Int32.ofInt 0).toInt = 0 := by decide
  have i60 : pj_Inv (pj_wv C 6 0 (.ref 7)) := pj_Inv_wv iC (ci := 10) rfl rfl rfl
  have iD : pj_Inv (pj_wv (pj_wv C 6 0 (.ref 7)) 6 1 (.ref 14)) := pj_Inv_wv i60 (ci := 10) rfl rfl rfl
  have v0 : pj_fv (pj_wv (pj_wv C 6 0 (.ref 7)) 6 1 (.ref 14)) 6 0 = some (.ref 7) := by
    rw [pj_fv_wv_ne _ _ _ _ _ _ (by decide)]
    exact tx_fvw iC.1 (ci := 10) rfl _
  have v9 : pj_fv (pj_wv (pj_wv C 6 0 (.ref 7)) 6 1 (.ref 14)) 6 1 = some (.ref 14) := tx_fvw i60.1 (ci := 10) rfl _
  have e : F_90x C = pj_wv (pj_wv (pj_wv (F_42_7x (pj_wv (pj_wv C 6 0 (.ref 7)) 6 1 (.ref 14))) 21 0 (.int (Int32.ofInt 0))) 21 5 (.int (Int32.ofInt 0))) 21 7 (.int (Int32.ofInt 0)) := by
    rw [F_90x_e, show pj_rb C 6 0 7 = false from pj_rb_f h0 rfl, show pj_rb C 6 1 7 = true from pj_rb_t h1]
    simp only [pj_nm_x, pj_cTx, pj_cFx]
    rw [show pj_rb (pj_wv (pj_wv C 6 0 (.ref 7)) 6 1 (.ref 14)) 6 0 7 = true from pj_rb_t v0, pj_cT]
  obtain ⟨i90, -⟩ := fr_90x C iC
  obtain ⟨iL, kL⟩ := fr_37x (F_90x C) i90
  obtain ⟨iE, kE⟩ := fr_42_7x _ iD
  have e37 := mr_37 (F_90x C)
  have a37 : ∀ a j, a ≠ 56 → pj_ai (F_37x (F_90x C)) a j = pj_ai (F_90x C) a j := fun a j h => by
    rw [e37, pj_ai_wa_ne _ _ _ _ _ _ h, pj_ai_wa_ne _ _ _ _ _ _ h, pj_ai_wa_ne _ _ _ _ _ _ h, pj_ai_wv]
  have ae : ∀ a j, pj_ai (F_90x C) a j = pj_ai (F_42_7x (pj_wv (pj_wv C 6 0 (.ref 7)) 6 1 (.ref 14))) a j := fun a j => by rw [e, pj_ai_wv, pj_ai_wv, pj_ai_wv]
  have aw : ∀ a j, pj_ai (pj_wv (pj_wv C 6 0 (.ref 7)) 6 1 (.ref 14)) a j = pj_ai C a j := fun a j => by rw [pj_ai_wv, pj_ai_wv]
  have sh36 : pj_coks pj_tb (pj_wv (F_90x C) 53 2 (.int (Int32.ofInt 0))).1 = true := mr_sv i90.1 (a := 53) (ci := 4) rfl _
  have s1 := mr_sb sh36 (a := 56) rfl 0 (vp_nar .boolean (Int32.ofInt 0))
  have s2 := mr_sb s1 (a := 56) rfl 1 (vp_nar .boolean (Int32.ofInt 0))
  have sE := iE.1
  have sE0 := mr_sv sE (a := 21) (ci := 8) (k := 0) rfl (Int32.ofInt 0)
  have sE5 := mr_sv sE0 (a := 21) (ci := 8) (k := 5) rfl (Int32.ofInt 0)
  refine ⟨?_, ?_, ?_, ?_, fun j => ⟨?_, ?_, ?_, ?_⟩, ?_, ?_, ?_, ?_, ?_⟩
  · rw [kL.2.1.2 (6, 0) (by decide), e, pj_fv_wv_ne _ _ _ _ _ _ (by decide), pj_fv_wv_ne _ _ _ _ _ _ (by decide), pj_fv_wv_ne _ _ _ _ _ _ (by decide), kE.2.1.2 (6, 0) (by decide)]
    exact v0
  · rw [kL.2.1.2 (6, 1) (by decide), e, pj_fv_wv_ne _ _ _ _ _ _ (by decide), pj_fv_wv_ne _ _ _ _ _ _ (by decide), pj_fv_wv_ne _ _ _ _ _ _ (by decide), kE.2.1.2 (6, 1) (by decide)]
    exact v9
  · rw [kL.1 (7, 0) (by decide), e, pj_fi_wv_ne _ _ _ _ _ _ (by decide), pj_fi_wv_ne _ _ _ _ _ _ (by decide), pj_fi_wv_ne _ _ _ _ _ _ (by decide), kE.1 (7, 0) (by decide), pj_fi_wv_ne _ _ _ _ _ _ (by decide), pj_fi_wv_ne _ _ _ _ _ _ (by decide)]
  · rw [kL.1 (7, 1) (by decide), e, pj_fi_wv_ne _ _ _ _ _ _ (by decide), pj_fi_wv_ne _ _ _ _ _ _ (by decide), pj_fi_wv_ne _ _ _ _ _ _ (by decide), kE.1 (7, 1) (by decide), pj_fi_wv_ne _ _ _ _ _ _ (by decide), pj_fi_wv_ne _ _ _ _ _ _ (by decide)]
  · rw [a37 _ _ (by decide), ae, kE.2.2 8 (by decide) j, aw]
  · rw [a37 _ _ (by decide), ae, kE.2.2 9 (by decide) j, aw]
  · rw [a37 _ _ (by decide), ae, kE.2.2 10 (by decide) j, aw]
  · rw [a37 _ _ (by decide), ae, kE.2.2 11 (by decide) j, aw]
  · rw [kL.1 (21, 0) (by decide), e, pj_fi_wv_ne _ _ _ _ _ _ (by decide), pj_fi_wv_ne _ _ _ _ _ _ (by decide), pj_fi_wi sE (a := 21) (ci := 8) (k := 0) rfl]
    exact k0
  · rw [kL.1 (21, 5) (by decide), e, pj_fi_wv_ne _ _ _ _ _ _ (by decide), pj_fi_wi sE0 (a := 21) (ci := 8) (k := 5) rfl]
    exact k0
  · rw [kL.1 (21, 7) (by decide), e, pj_fi_wi sE5 (a := 21) (ci := 8) (k := 7) rfl]
    exact k0
  · rw [e37, pj_fi_wa, pj_fi_wa, pj_fi_wa, pj_fi_wi i90.1 (a := 53) (ci := 4) (k := 2) rfl]
    exact k0
  · intro i hi
    rw [e37]
    rcases (show i = 0 ∨ i = 1 ∨ i = 2 by omega) with rfl | rfl | rfl
    · rw [pj_ai_wa_nj _ _ _ _ _ (by decide), pj_ai_wa_nj _ _ _ _ _ (by decide), mr_be sh36 (a := 56) rfl]
    · rw [pj_ai_wa_nj _ _ _ _ _ (by decide), mr_be s1 (a := 56) rfl]
    · rw [mr_be s2 (a := 56) rfl]
noncomputable def mr_CX_7 (C : pj_G) : Int32 × pj_G := pj_bd (F_88tx (F_41_7x C)) (fun y14 G15 => cond (pj_c1 .eq y14 (Int32.ofInt (-1))) (pj_nm (F_90x G15) (fun G20 => pj_nm (F_37x G20) (fun G25 => cond (pj_rb G25 6 0 7) (pj_nm (pj_fi G25 7 1) (fun y29 => (y29, G25))) (pj_nm (pj_fi G25 14 1) (fun y31 => (y31, G25)))))) (pj_nm (F_162x G15 y14) (fun y34 => (y34, G15))))
def mr_WC_7 : pj_KT := ([(2, 1), (2, 3), (2, 4), (7, 0), (7, 1)], [2, 7, 8, 9, 10, 11], [8, 9, 10, 11])
theorem mr_fin_7 {C R' : pj_G} (R0 : pj_G) (iC : pj_Inv C) (h0 : pj_fv C 6 0 = some (.ref 14)) (h1 : pj_fv C 6 1 = some (.ref 7)) (g : Nat) (hg : 20 ≤ g) (n is : Int32) (rn : (0 : Int) ≤ n.toInt ∧ n.toInt ≤ 80) (hn : (pj_fi C 2 1).toInt = n.toInt) (hl1 : n.toInt ≤ 72 → (pj_fi C 2 2).toInt = n.toInt) (hl2 : 72 ≤ n.toInt → (pj_fi C 2 2).toInt = 72) (st : (is.toInt = 1 ∧ tx_RD (F_41_7x C) R' ∧ (pj_fi (F_41_7x C) 7 1).toInt = (pj_fi R' 171 22).toInt ∧ pj_fi (F_41_7x C) 7 0 = pj_fi R' 171 21 ∧ (∀ i : Nat, (i : Int) < (pj_fi R' 171 22).toInt → tx_cr_7 (F_41_7x C) R' i)) ∨ (is.toInt = 0 ∧ tx_ER (F_41_7x C) R')) : (0 ≤ (mr_CX_7 C).1.toInt ∧ mr_Vr 7 14 (mr_CX_7 C).2 (tx_EX R0 g n is R').2 ∧ mr_ZC (mr_CX_7 C).2 ∧ mr_ZR R' (tx_EX R0 g n is R').2) ∨ ((mr_CX_7 C).1.toInt < 0 ∧ pj_kpt mr_WC_7 C (mr_CX_7 C).2 ∧ (tx_EX R0 g n is R').2 = R') := by
  have cm : (Int32.ofInt (-1)).toInt = -1 := by decide
  have k0 : (Int32.ofInt 0).toInt = 0 := by decide
  have k72 : (((Int8.ofInt 72).toInt32)).toInt = 72 := by decide
  obtain ⟨i1, k1⟩ := fr_41_7x C iC
  obtain ⟨i2, k2, r2, -⟩ := fr_88tx (F_41_7x C) i1
  have s1 : (pj_fi (F_41_7x C) 2 1).toInt = n.toInt := by rw [k1.1 (2, 1) (by decide)]; exact hn
  have s2 : (pj_fi (F_41_7x C) 2 2).toInt = (pj_fi C 2 2).toInt := by rw [k1.1 (2, 2) (by decide)]
  have f0 : pj_fv (F_88tx (F_41_7x C)).2 6 0 = some (.ref 14) := by rw [k2.2.1.2 (6, 0) (by decide), k1.2.1.2 (6, 0) (by decide)]; exact h0
  have f1 : pj_fv (F_88tx (F_41_7x C)).2 6 1 = some (.ref 7) := by rw [k2.2.1.2 (6, 1) (by decide), k1.2.1.2 (6, 1) (by decide)]; exact h1
  have c0 : pj_fi (F_88tx (F_41_7x C)).2 7 0 = pj_fi (F_41_7x C) 7 0 := k2.1 (7, 0) (by decide)
  have c1 : pj_fi (F_88tx (F_41_7x C)).2 7 1 = pj_fi (F_41_7x C) 7 1 := k2.1 (7, 1) (by decide)
  have a1 := k2.2.2 8 (by decide)
  have a2 := k2.2.2 9 (by decide)
  have a3 := k2.2.2 10 (by decide)
  have a4 := k2.2.2 11 (by decide)
  have st' : (is.toInt = 1 ∧ tx_RD (F_41_7x C) R') ∨ (is.toInt = 0 ∧ tx_ER (F_41_7x C) R') := st.imp (fun q => ⟨q.1, q.2.1⟩) id
  have iR : pj_Inv R' := by
    rcases st' with ⟨_, b⟩ | ⟨_, b⟩
    · exact b.2.1
    · exact b.2.1
  have ft := tx_fault n ((Int8.ofInt 72).toInt32) is rn (by omega) s1 (by omega) (by omega) (by omega) st'
  have r22 := tx_r22 iR
  unfold mr_CX_7
  simp only [pj_nm_x, pj_bd_x]
  rcases ft with ⟨t1, t2, t3⟩ | ⟨t1, t2, t3⟩
  · rcases st with ⟨_, _, u3, u4, u5⟩ | ⟨b, _⟩
    · left
      obtain ⟨q1, q2, q3, q4, q5, q6, q7, q8, q9, q10⟩ := mr_set_7 i2 f0 f1
      rw [pj_b_eqT (show (F_88tx (F_41_7x C)).1.toInt = (Int32.ofInt (-1)).toInt by omega), pj_cT, show pj_rb (F_37x (F_90x (F_88tx (F_41_7x C)).2)) 6 0 7 = true from pj_rb_t q1, pj_cT]
      dsimp only
      have w3 := mr_sv iR.1 (a := 171) (ci := 12) (k := 3) rfl (pj_fi R' 171 21)
      have w4 := mr_sv w3 (a := 171) (ci := 12) (k := 4) rfl (pj_fi R' 171 22)
      have x4 : pj_fi (pj_wv (pj_wv R' 171 3 (.int (pj_fi R' 171 21))) 171 4 (.int (pj_fi R' 171 22))) 171 4 = pj_fi R' 171 22 := pj_fi_wi w3 (ci := 12) rfl _
      have x3 : pj_fi (pj_wv (pj_wv R' 171 3 (.int (pj_fi R' 171 21))) 171 4 (.int (pj_fi R' 171 22))) 171 3 = pj_fi R' 171 21 := by rw [pj_fi_wv_ne _ _ _ _ _ _ (by decide)]; exact pj_fi_wi iR.1 (ci := 12) rfl _
      obtain ⟨V, e, hV, v1, v2, v3, v4⟩ := mr_cp R0 n is (F_189x R' n ((Int8.ofInt 72).toInt32) is) 10 g (Int32.ofInt 0) _ w4 (by omega) (by omega) (by rw [x4]; omega) (by rw [x4]; omega) (by omega)
      have eE : tx_EX R0 g n is R' = (pj_fi (mr_end V) 171 4, mr_end V) := by
        unfold tx_EX
        simp only [pj_nm_x]
        rw [pj_b0_geT (show 0 ≤ (F_189x R' n ((Int8.ofInt 72).toInt32) is).toInt by omega), pj_cT]
        exact e
      rw [eE]
      dsimp only
      obtain ⟨y1, y2, y3, y4, y5, y6, y7, y8⟩ := mr_end_r hV
      have z4 : pj_fi (mr_end V) 171 4 = pj_fi R' 171 22 := y2.trans ((v1 171 4).trans x4)
      have z3 : pj_fi (mr_end V) 171 3 = pj_fi R' 171 21 := y1.trans ((v1 171 3).trans x3)
      have z7 : pj_fi V 171 7 = pj_fi R' 171 7 := by rw [v1 171 7, pj_fi_wv_ne _ _ _ _ _ _ (by decide), pj_fi_wv_ne _ _ _ _ _ _ (by decide)]
      refine ⟨?_, ⟨q1, q2, ?_, ?_, fun i hi => ?_⟩, ⟨q6, q7, q8, q9, q10⟩, ⟨y3, y4, by rw [y5, z7], y6, y8⟩⟩
      · rw [q4, c1]
        omega
      · rw [q3, c0, u4, z3]
      · rw [q4, c1, z4]
        exact Int32.toInt_inj.mp u3
      · rw [z4] at hi
        obtain ⟨m1, m2, m3, m4⟩ := u5 i hi
        obtain ⟨n1, n2, n3, n4⟩ := v4 i (by omega) (by rw [x4]; exact hi)
        have aR : ∀ j, pj_ai (pj_wv (pj_wv R' 171 3 (.int (pj_fi R' 171 21))) 171 4 (.int (pj_fi R' 171 22))) 181 j = pj_ai R' 181 j := fun j => by rw [pj_ai_wv, pj_ai_wv]
        rw [aR] at n1 n2 n3 n4
        rw [y7 173 i (by decide), y7 174 i (by decide), y7 175 i (by decide), y7 176 i (by decide), n1, n2, n3, n4]
        exact ⟨((q5 i).1.trans (a1 i)).trans m1, ((q5 i).2.1.trans (a2 i)).trans m2, ((q5 i).2.2.1.trans (a3 i)).trans m3, ((q5 i).2.2.2.trans (a4 i)).trans m4⟩
    · omega
  · right
    rw [pj_b_eqF (show ¬ (F_88tx (F_41_7x C)).1.toInt = (Int32.ofInt (-1)).toInt by omega), pj_cF]
    dsimp only
    refine ⟨?_, pj_kpt_t (pj_kpt_s k1 rfl) (pj_kpt_s k2 rfl), ?_⟩
    · rw [F_162x_e, pj_nm_e, pj_subI (by omega) (by omega), cm]
      omega
    · unfold tx_EX
      rw [pj_nm_e, pj_b0_geF (by omega), pj_cF]
/-- the river read is the river (the other one, 7, was it) -/
theorem mr_set_14 {C : pj_G} (iC : pj_Inv C) (h0 : pj_fv C 6 0 = some (.ref 7)) (h1 : pj_fv C 6 1 = some (.ref 14)) : pj_fv (F_37x (F_90x C)) 6 0 = some (.ref 14) ∧ pj_fv (F_37x (F_90x C)) 6 1 = some (.ref 7) ∧ pj_fi (F_37x (F_90x C)) 14 0 = pj_fi C 14 0 ∧ pj_fi (F_37x (F_90x C)) 14 1 = pj_fi C 14 1 ∧ (∀ j, pj_ai (F_37x (F_90x C)) 15 j = pj_ai C 15 j ∧ pj_ai (F_37x (F_90x C)) 16 j = pj_ai C 16 j ∧ pj_ai (F_37x (F_90x C)) 17 j = pj_ai C 17 j ∧ pj_ai (F_37x (F_90x C)) 18 j = pj_ai C 18 j) ∧ (pj_fi (F_37x (F_90x C)) 21 0).toInt = 0 ∧ (pj_fi (F_37x (F_90x C)) 21 5).toInt = 0 ∧ (pj_fi (F_37x (F_90x C)) 21 7).toInt = 0 ∧ (pj_fi (F_37x (F_90x C)) 53 2).toInt = 0 ∧ (∀ i, i < 3 → pj_ai (F_37x (F_90x C)) 56 i = vp_nar .boolean (Int32.ofInt 0)) := by
  have k0 : (Int32.ofInt 0).toInt = 0 := by decide
  have i60 : pj_Inv (pj_wv C 6 0 (.ref 14)) := pj_Inv_wv iC (ci := 10) rfl rfl rfl
  have iD : pj_Inv (pj_wv (pj_wv C 6 0 (.ref 14)) 6 1 (.ref 7)) := pj_Inv_wv i60 (ci := 10) rfl rfl rfl
  have v0 : pj_fv (pj_wv (pj_wv C 6 0 (.ref 14)) 6 1 (.ref 7)) 6 0 = some (.ref 14) := by
    rw [pj_fv_wv_ne _ _ _ _ _ _ (by decide)]
    exact tx_fvw iC.1 (ci := 10) rfl _
  have v9 : pj_fv (pj_wv (pj_wv C 6 0 (.ref 14)) 6 1 (.ref 7)) 6 1 = some (.ref 7) := tx_fvw i60.1 (ci := 10) rfl _
  have e : F_90x C = pj_wv (pj_wv (pj_wv (F_42_14x (pj_wv (pj_wv C 6 0 (.ref 14)) 6 1 (.ref 7))) 21 0 (.int (Int32.ofInt 0))) 21 5 (.int (Int32.ofInt 0))) 21 7 (.int (Int32.ofInt 0)) := by
    rw [F_90x_e, show pj_rb C 6 0 7 = true from pj_rb_t h0, show pj_rb C 6 1 7 = false from pj_rb_f h1 rfl]
    simp only [pj_nm_x, pj_cTx, pj_cFx]
    rw [show pj_rb (pj_wv (pj_wv C 6 0 (.ref 14)) 6 1 (.ref 7)) 6 0 7 = false from pj_rb_f v0 rfl, pj_cF]
  obtain ⟨i90, -⟩ := fr_90x C iC
  obtain ⟨iL, kL⟩ := fr_37x (F_90x C) i90
  obtain ⟨iE, kE⟩ := fr_42_14x _ iD
  have e37 := mr_37 (F_90x C)
  have a37 : ∀ a j, a ≠ 56 → pj_ai (F_37x (F_90x C)) a j = pj_ai (F_90x C) a j := fun a j h => by
    rw [e37, pj_ai_wa_ne _ _ _ _ _ _ h, pj_ai_wa_ne _ _ _ _ _ _ h, pj_ai_wa_ne _ _ _ _ _ _ h, pj_ai_wv]
  have ae : ∀ a j, pj_ai (F_90x C) a j = pj_ai (F_42_14x (pj_wv (pj_wv C 6 0 (.ref 14)) 6 1 (.ref 7))) a j := fun a j => by rw [e, pj_ai_wv, pj_ai_wv, pj_ai_wv]
  have aw : ∀ a j, pj_ai (pj_wv (pj_wv C 6 0 (.ref 14)) 6 1 (.ref 7)) a j = pj_ai C a j := fun a j => by rw [pj_ai_wv, pj_ai_wv]
  have sh36 : pj_coks pj_tb (pj_wv (F_90x C) 53 2 (.int (Int32.ofInt 0))).1 = true := mr_sv i90.1 (a := 53) (ci := 4) rfl _
  have s1 := mr_sb sh36 (a := 56) rfl 0 (vp_nar .boolean (Int32.ofInt 0))
  have s2 := mr_sb s1 (a := 56) rfl 1 (vp_nar .boolean (Int32.ofInt 0))
  have sE := iE.1
  have sE0 := mr_sv sE (a := 21) (ci := 8) (k := 0) rfl (Int32.ofInt 0)
  have sE5 := mr_sv sE0 (a := 21) (ci := 8) (k := 5) rfl (Int32.ofInt 0)
  refine ⟨?_, ?_, ?_, ?_, fun j => ⟨?_, ?_, ?_, ?_⟩, ?_, ?_, ?_, ?_, ?_⟩
  · rw [kL.2.1.2 (6, 0) (by decide), e, pj_fv_wv_ne _ _ _ _ _ _ (by decide), pj_fv_wv_ne _ _ _ _ _ _ (by decide), pj_fv_wv_ne _ _ _ _ _ _ (by decide), kE.2.1.2 (6, 0) (by decide)]
    exact v0
  · rw [kL.2.1.2 (6, 1) (by decide), e, pj_fv_wv_ne _ _ _ _ _ _ (by decide), pj_fv_wv_ne _ _ _ _ _ _ (by decide), pj_fv_wv_ne _ _ _ _ _ _ (by decide), kE.2.1.2 (6, 1) (by decide)]
    exact v9
  · rw [kL.1 (14, 0) (by decide), e, pj_fi_wv_ne _ _ _ _ _ _ (by decide), pj_fi_wv_ne _ _ _ _ _ _ (by decide), pj_fi_wv_ne _ _ _ _ _ _ (by decide), kE.1 (14, 0) (by decide), pj_fi_wv_ne _ _ _ _ _ _ (by decide), pj_fi_wv_ne _ _ _ _ _ _ (by decide)]
  · rw [kL.1 (14, 1) (by decide), e, pj_fi_wv_ne _ _ _ _ _ _ (by decide), pj_fi_wv_ne _ _ _ _ _ _ (by decide), pj_fi_wv_ne _ _ _ _ _ _ (by decide), kE.1 (14, 1) (by decide), pj_fi_wv_ne _ _ _ _ _ _ (by decide), pj_fi_wv_ne _ _ _ _ _ _ (by decide)]
  · rw [a37 _ _ (by decide), ae, kE.2.2 15 (by decide) j, aw]
  · rw [a37 _ _ (by decide), ae, kE.2.2 16 (by decide) j, aw]
  · rw [a37 _ _ (by decide), ae, kE.2.2 17 (by decide) j, aw]
  · rw [a37 _ _ (by decide), ae, kE.2.2 18 (by decide) j, aw]
  · rw [kL.1 (21, 0) (by decide), e, pj_fi_wv_ne _ _ _ _ _ _ (by decide), pj_fi_wv_ne _ _ _ _ _ _ (by decide), pj_fi_wi sE (a := 21) (ci := 8) (k := 0) rfl]
    exact k0
  · rw [kL.1 (21, 5) (by decide), e, pj_fi_wv_ne _ _ _ _ _ _ (by decide), pj_fi_wi sE0 (a := 21) (ci := 8) (k := 5) rfl]
    exact k0
  · rw [kL.1 (21, 7) (by decide), e, pj_fi_wi sE5 (a := 21) (ci := 8) (k := 7) rfl]
    exact k0
  · rw [e37, pj_fi_wa, pj_fi_wa, pj_fi_wa, pj_fi_wi i90.1 (a := 53) (ci := 4) (k := 2) rfl]
    exact k0
  · intro i hi
    rw [e37]
    rcases (show i = 0 ∨ i = 1 ∨ i = 2 by omega) with rfl | rfl | rfl
    · rw [pj_ai_wa_nj _ _ _ _ _ (by decide), pj_ai_wa_nj _ _ _ _ _ (by decide), mr_be sh36 (a := 56) rfl]
    · rw [pj_ai_wa_nj _ _ _ _ _ (by decide), mr_be s1 (a := 56) rfl]
    · rw [mr_be s2 (a := 56) rfl]
noncomputable def mr_CX_14 (C : pj_G) : Int32 × pj_G := pj_bd (F_88tx (F_41_14x C)) (fun y14 G15 => cond (pj_c1 .eq y14 (Int32.ofInt (-1))) (pj_nm (F_90x G15) (fun G20 => pj_nm (F_37x G20) (fun G25 => cond (pj_rb G25 6 0 7) (pj_nm (pj_fi G25 7 1) (fun y29 => (y29, G25))) (pj_nm (pj_fi G25 14 1) (fun y31 => (y31, G25)))))) (pj_nm (F_162x G15 y14) (fun y34 => (y34, G15))))
def mr_WC_14 : pj_KT := ([(2, 1), (2, 3), (2, 4), (14, 0), (14, 1)], [2, 14, 15, 16, 17, 18], [15, 16, 17, 18])
theorem mr_fin_14 {C R' : pj_G} (R0 : pj_G) (iC : pj_Inv C) (h0 : pj_fv C 6 0 = some (.ref 7)) (h1 : pj_fv C 6 1 = some (.ref 14)) (g : Nat) (hg : 20 ≤ g) (n is : Int32) (rn : (0 : Int) ≤ n.toInt ∧ n.toInt ≤ 80) (hn : (pj_fi C 2 1).toInt = n.toInt) (hl1 : n.toInt ≤ 72 → (pj_fi C 2 2).toInt = n.toInt) (hl2 : 72 ≤ n.toInt → (pj_fi C 2 2).toInt = 72) (st : (is.toInt = 1 ∧ tx_RD (F_41_14x C) R' ∧ (pj_fi (F_41_14x C) 14 1).toInt = (pj_fi R' 171 22).toInt ∧ pj_fi (F_41_14x C) 14 0 = pj_fi R' 171 21 ∧ (∀ i : Nat, (i : Int) < (pj_fi R' 171 22).toInt → tx_cr_14 (F_41_14x C) R' i)) ∨ (is.toInt = 0 ∧ tx_ER (F_41_14x C) R')) : (0 ≤ (mr_CX_14 C).1.toInt ∧ mr_Vr 14 7 (mr_CX_14 C).2 (tx_EX R0 g n is R').2 ∧ mr_ZC (mr_CX_14 C).2 ∧ mr_ZR R' (tx_EX R0 g n is R').2) ∨ ((mr_CX_14 C).1.toInt < 0 ∧ pj_kpt mr_WC_14 C (mr_CX_14 C).2 ∧ (tx_EX R0 g n is R').2 = R') := by
  have cm : (Int32.ofInt (-1)).toInt = -1 := by decide
  have k0 : (Int32.ofInt 0).toInt = 0 := by decide
  have k72 : (((Int8.ofInt 72).toInt32)).toInt = 72 := by decide
  obtain ⟨i1, k1⟩ := fr_41_14x C iC
  obtain ⟨i2, k2, r2, -⟩ := fr_88tx (F_41_14x C) i1
  have s1 : (pj_fi (F_41_14x C) 2 1).toInt = n.toInt := by rw [k1.1 (2, 1) (by decide)]; exact hn
  have s2 : (pj_fi (F_41_14x C) 2 2).toInt = (pj_fi C 2 2).toInt := by rw [k1.1 (2, 2) (by decide)]
  have f0 : pj_fv (F_88tx (F_41_14x C)).2 6 0 = some (.ref 7) := by rw [k2.2.1.2 (6, 0) (by decide), k1.2.1.2 (6, 0) (by decide)]; exact h0
  have f1 : pj_fv (F_88tx (F_41_14x C)).2 6 1 = some (.ref 14) := by rw [k2.2.1.2 (6, 1) (by decide), k1.2.1.2 (6, 1) (by decide)]; exact h1
  have c0 : pj_fi (F_88tx (F_41_14x C)).2 14 0 = pj_fi (F_41_14x C) 14 0 := k2.1 (14, 0) (by decide)
  have c1 : pj_fi (F_88tx (F_41_14x C)).2 14 1 = pj_fi (F_41_14x C) 14 1 := k2.1 (14, 1) (by decide)
  have a1 := k2.2.2 15 (by decide)
  have a2 := k2.2.2 16 (by decide)
  have a3 := k2.2.2 17 (by decide)
  have a4 := k2.2.2 18 (by decide)
  have st' : (is.toInt = 1 ∧ tx_RD (F_41_14x C) R') ∨ (is.toInt = 0 ∧ tx_ER (F_41_14x C) R') := st.imp (fun q => ⟨q.1, q.2.1⟩) id
  have iR : pj_Inv R' := by
    rcases st' with ⟨_, b⟩ | ⟨_, b⟩
    · exact b.2.1
    · exact b.2.1
  have ft := tx_fault n ((Int8.ofInt 72).toInt32) is rn (by omega) s1 (by omega) (by omega) (by omega) st'
  have r22 := tx_r22 iR
  unfold mr_CX_14
  simp only [pj_nm_x, pj_bd_x]
  rcases ft with ⟨t1, t2, t3⟩ | ⟨t1, t2, t3⟩
  · rcases st with ⟨_, _, u3, u4, u5⟩ | ⟨b, _⟩
    · left
      obtain ⟨q1, q2, q3, q4, q5, q6, q7, q8, q9, q10⟩ := mr_set_14 i2 f0 f1
      rw [pj_b_eqT (show (F_88tx (F_41_14x C)).1.toInt = (Int32.ofInt (-1)).toInt by omega), pj_cT, show pj_rb (F_37x (F_90x (F_88tx (F_41_14x C)).2)) 6 0 7 = false from pj_rb_f q1 rfl, pj_cF]
      dsimp only
      have w3 := mr_sv iR.1 (a := 171) (ci := 12) (k := 3) rfl (pj_fi R' 171 21)
      have w4 := mr_sv w3 (a := 171) (ci := 12) (k := 4) rfl (pj_fi R' 171 22)
      have x4 : pj_fi (pj_wv (pj_wv R' 171 3 (.int (pj_fi R' 171 21))) 171 4 (.int (pj_fi R' 171 22))) 171 4 = pj_fi R' 171 22 := pj_fi_wi w3 (ci := 12) rfl _
      have x3 : pj_fi (pj_wv (pj_wv R' 171 3 (.int (pj_fi R' 171 21))) 171 4 (.int (pj_fi R' 171 22))) 171 3 = pj_fi R' 171 21 := by rw [pj_fi_wv_ne _ _ _ _ _ _ (by decide)]; exact pj_fi_wi iR.1 (ci := 12) rfl _
      obtain ⟨V, e, hV, v1, v2, v3, v4⟩ := mr_cp R0 n is (F_189x R' n ((Int8.ofInt 72).toInt32) is) 10 g (Int32.ofInt 0) _ w4 (by omega) (by omega) (by rw [x4]; omega) (by rw [x4]; omega) (by omega)
      have eE : tx_EX R0 g n is R' = (pj_fi (mr_end V) 171 4, mr_end V) := by
        unfold tx_EX
        simp only [pj_nm_x]
        rw [pj_b0_geT (show 0 ≤ (F_189x R' n ((Int8.ofInt 72).toInt32) is).toInt by omega), pj_cT]
        exact e
      rw [eE]
      dsimp only
      obtain ⟨y1, y2, y3, y4, y5, y6, y7, y8⟩ := mr_end_r hV
      have z4 : pj_fi (mr_end V) 171 4 = pj_fi R' 171 22 := y2.trans ((v1 171 4).trans x4)
      have z3 : pj_fi (mr_end V) 171 3 = pj_fi R' 171 21 := y1.trans ((v1 171 3).trans x3)
      have z7 : pj_fi V 171 7 = pj_fi R' 171 7 := by rw [v1 171 7, pj_fi_wv_ne _ _ _ _ _ _ (by decide), pj_fi_wv_ne _ _ _ _ _ _ (by decide)]
      refine ⟨?_, ⟨q1, q2, ?_, ?_, fun i hi => ?_⟩, ⟨q6, q7, q8, q9, q10⟩, ⟨y3, y4, by rw [y5, z7], y6, y8⟩⟩
      · rw [q4, c1]
        omega
      · rw [q3, c0, u4, z3]
      · rw [q4, c1, z4]
        exact Int32.toInt_inj.mp u3
      · rw [z4] at hi
        obtain ⟨m1, m2, m3, m4⟩ := u5 i hi
        obtain ⟨n1, n2, n3, n4⟩ := v4 i (by omega) (by rw [x4]; exact hi)
        have aR : ∀ j, pj_ai (pj_wv (pj_wv R' 171 3 (.int (pj_fi R' 171 21))) 171 4 (.int (pj_fi R' 171 22))) 181 j = pj_ai R' 181 j := fun j => by rw [pj_ai_wv, pj_ai_wv]
        rw [aR] at n1 n2 n3 n4
        rw [y7 173 i (by decide), y7 174 i (by decide), y7 175 i (by decide), y7 176 i (by decide), n1, n2, n3, n4]
        exact ⟨((q5 i).1.trans (a1 i)).trans m1, ((q5 i).2.1.trans (a2 i)).trans m2, ((q5 i).2.2.1.trans (a3 i)).trans m3, ((q5 i).2.2.2.trans (a4 i)).trans m4⟩
    · omega
  · right
    rw [pj_b_eqF (show ¬ (F_88tx (F_41_14x C)).1.toInt = (Int32.ofInt (-1)).toInt by omega), pj_cF]
    dsimp only
    refine ⟨?_, pj_kpt_t (pj_kpt_s k1 rfl) (pj_kpt_s k2 rfl), ?_⟩
    · rw [F_162x_e, pj_nm_e, pj_subI (by omega) (by omega), cm]
      omega
    · unfold tx_EX
      rw [pj_nm_e, pj_b0_geF (by omega), pj_cF]
/-- river() on both sides -/
theorem mr_river {G H : pj_G} (hI : pj_Inv G) (iH : pj_Inv H) (hs : (pj_fi G 2 1).toInt = (pj_fi H 171 16).toInt) (ht : ∀ j : Nat, (j : Int) < (pj_fi G 2 1).toInt → pj_ai G 3 j = pj_ai H 180 j) (hv : mr_V G H) : (F_119tx G).1 = (F_192tx H).1 ∧ mr_V (F_119tx G).2 (F_192tx H).2 ∧ ((0 ≤ (F_119tx G).1.toInt ∧ mr_ZC (F_119tx G).2 ∧ mr_ZR H (F_192tx H).2) ∨ ((F_119tx G).1.toInt < 0 ∧ pj_kpt mr_WC G (F_119tx G).2 ∧ pj_kpt mr_WR H (F_192tx H).2)) := by
  have k72 : (((Int8.ofInt 72).toInt32)).toInt = 72 := by decide
  have k0 : (Int32.ofInt 0).toInt = 0 := by decide
  have i0 : pj_Inv (pj_wv H 171 0 (.int (Int32.ofInt 0))) := pj_Inv_wi iH (ci := 12) rfl (fun q hq => by cases hq)
  obtain ⟨i1, k1, r1, ⟨⟨x17, x18, x19⟩, x16⟩, y1, z1, w1, w2⟩ := fr_182etx (pj_wv H 171 0 (.int (Int32.ofInt 0))) i0 ((Int8.ofInt 72).toInt32) (by omega)
  have e16 : (pj_fi (pj_wv H 171 0 (.int (Int32.ofInt 0))) 171 16).toInt = (pj_fi G 2 1).toInt := by rw [pj_fi_wv_ne _ _ _ _ _ _ (by decide)]; exact hs.symm
  have b180 : ∀ j, pj_ai (F_182etx (pj_wv H 171 0 (.int (Int32.ofInt 0))) ((Int8.ofInt 72).toInt32)).2 180 j = pj_ai H 180 j := fun j => by rw [k1.2.2 180 (by decide) j, pj_ai_wv]
  obtain ⟨iC, kC, c3, c4, l1, l2⟩ := fr_79x G hI ((Int8.ofInt 72).toInt32) (by omega)
  have rS : (0 : Int) ≤ (pj_fi G 2 1).toInt ∧ (pj_fi G 2 1).toInt ≤ 80 := hI.2.1 2 1 (0, 80) rfl
  have sz : pj_fi (F_79x G ((Int8.ofInt 72).toInt32)) 2 1 = pj_fi G 2 1 := kC.1 (2, 1) (by decide)
  have eR : F_192tx H = cond (pj_c1 .le (Int32.ofInt 2 + (F_186_s10x (pj_wv (F_182etx (pj_wv H 171 0 (.int (Int32.ofInt 0))) ((Int8.ofInt 72).toInt32)).2 171 22 (.int (Int32.ofInt 0)))).1) (Int32.ofInt 1)) (L_192tx H 2001 0 (F_182etx (pj_wv H 171 0 (.int (Int32.ofInt 0))) ((Int8.ofInt 72).toInt32)).1 (Int32.ofInt 0) 0 0 (pj_wv (F_186_s10x (pj_wv (F_182etx (pj_wv H 171 0 (.int (Int32.ofInt 0))) ((Int8.ofInt 72).toInt32)).2 171 22 (.int (Int32.ofInt 0)))).2 171 21 (.int (Int32.ofInt 2 + (F_186_s10x (pj_wv (F_182etx (pj_wv H 171 0 (.int (Int32.ofInt 0))) ((Int8.ofInt 72).toInt32)).2 171 22 (.int (Int32.ofInt 0)))).1)))) (L_192tx H 2001 0 (F_182etx (pj_wv H 171 0 (.int (Int32.ofInt 0))) ((Int8.ofInt 72).toInt32)).1 (Int32.ofInt 1) 0 0 (pj_wv (F_186_s10x (pj_wv (F_182etx (pj_wv H 171 0 (.int (Int32.ofInt 0))) ((Int8.ofInt 72).toInt32)).2 171 22 (.int (Int32.ofInt 0)))).2 171 21 (.int (Int32.ofInt 2 + (F_186_s10x (pj_wv (F_182etx (pj_wv H 171 0 (.int (Int32.ofInt 0))) ((Int8.ofInt 72).toInt32)).2 171 22 (.int (Int32.ofInt 0)))).1)))) := by
    rw [F_192tx_e]
    simp only [pj_nm_x, pj_bd_x]
  have kH : pj_kpt mr_WR H (pj_wv (F_182etx (pj_wv H 171 0 (.int (Int32.ofInt 0))) ((Int8.ofInt 72).toInt32)).2 171 22 (.int (Int32.ofInt 0))) := pj_kpt_v (pj_kpt_t (pj_kpt_v (pj_kpt_r _ _) rfl) (pj_kpt_s k1 rfl)) rfl
  rw [eR]
  clear eR
  have kA : pj_kpt mr_WC G (F_79x G ((Int8.ofInt 72).toInt32)) := pj_kpt_s kC rfl
  have v60 : pj_fv (F_79x G ((Int8.ofInt 72).toInt32)) 6 0 = pj_fv G 6 0 := kC.2.1.2 (6, 0) (by decide)
  have v61 : pj_fv (F_79x G ((Int8.ofInt 72).toInt32)) 6 1 = pj_fv G 6 1 := kC.2.1.2 (6, 1) (by decide)
  generalize (F_182etx (pj_wv H 171 0 (.int (Int32.ofInt 0))) ((Int8.ofInt 72).toInt32)).2 = R1 at *
  generalize (F_182etx (pj_wv H 171 0 (.int (Int32.ofInt 0))) ((Int8.ofInt 72).toInt32)).1 = n at *
  have h0 : tx_RD (F_79x G ((Int8.ofInt 72).toInt32)) R1 := ⟨iC, i1, c4, by omega, by omega, by omega, fun j hj => by rw [kC.2.2 3 (by decide) j, b180]; exact ht j (by omega)⟩
  have i22 := tx_i22 i1 (Int32.ofInt 0) (by omega)
  have h1 := tx_wvR h0 i22 (by decide) (by decide)
  have m22 : (pj_fi (pj_wv R1 171 22 (.int (Int32.ofInt 0))) 171 22).toInt = 0 := by rw [pj_fi_wi i1.1 (ci := 12) rfl _, k0]
  have hn : (pj_fi (F_79x G ((Int8.ofInt 72).toInt32)) 2 1).toInt = n.toInt := by rw [sz]; omega
  rcases hv with hv | hv
  · have hf0 : pj_fv (F_79x G ((Int8.ofInt 72).toInt32)) 6 0 = some (.ref 7) := v60.trans hv.1
    have hf1 : pj_fv (F_79x G ((Int8.ofInt 72).toInt32)) 6 1 = some (.ref 14) := v61.trans hv.2.1
    obtain ⟨g, is, R', hg', kR, e, st⟩ := tx_rd_14 h1 n m22 H
    have eC : F_119tx G = mr_CX_14 (F_79x G ((Int8.ofInt 72).toInt32)) := by
      unfold mr_CX_14
      rw [F_119tx_e, pj_nm_e, show pj_rb (F_79x G ((Int8.ofInt 72).toInt32)) 6 1 7 = false from pj_rb_f hf1 rfl, pj_cF, pj_nm_e]
    have kR2 : pj_kpt mr_WR H R' := pj_kpt_t kH (pj_kpt_s kR rfl)
    have a : (mr_CX_14 (F_79x G ((Int8.ofInt 72).toInt32))).1 = (tx_EX H g n is R').1 := by
      unfold mr_CX_14
      exact tx_fin_14 H iC hf1 g hg' n is (by omega) hn (by omega) (by omega) (st.imp (fun q => ⟨q.1, q.2.1, q.2.2.1⟩) id)
    rw [e, eC]
    refine ⟨a, ?_⟩
    rcases mr_fin_14 H iC hf0 hf1 g hg' n is (by omega) hn (by omega) (by omega) st with ⟨b1, b2, b3, b4⟩ | ⟨b1, b2, b3⟩
    · refine ⟨.inr b2, .inl ⟨b1, b3, b4.1, b4.2.1, ?_, b4.2.2.2.1, b4.2.2.2.2⟩⟩
      rw [b4.2.2.1, kR2.1 (171, 7) (by decide)]
    · rw [b3]
      refine ⟨.inl (mr_Vk hv ((b2.2.1.2 (6, 0) (by decide)).trans v60) ((b2.2.1.2 (6, 1) (by decide)).trans v61) ((b2.1 (7, 0) (by decide)).trans (kC.1 (7, 0) (by decide))) ((b2.1 (7, 1) (by decide)).trans (kC.1 (7, 1) (by decide))) (fun j => (b2.2.2 8 (by decide) j).trans (kC.2.2 8 (by decide) j)) (fun j => (b2.2.2 9 (by decide) j).trans (kC.2.2 9 (by decide) j)) (fun j => (b2.2.2 10 (by decide) j).trans (kC.2.2 10 (by decide) j)) (fun j => (b2.2.2 11 (by decide) j).trans (kC.2.2 11 (by decide) j)) (kR2.1 (171, 3) (by decide)) (kR2.1 (171, 4) (by decide)) (kR2.2.2 173 (by decide)) (kR2.2.2 174 (by decide)) (kR2.2.2 175 (by decide)) (kR2.2.2 176 (by decide))), .inr ⟨b1, pj_kpt_t kA (pj_kpt_s b2 rfl), kR2⟩⟩
  · have hf0 : pj_fv (F_79x G ((Int8.ofInt 72).toInt32)) 6 0 = some (.ref 14) := v60.trans hv.1
    have hf1 : pj_fv (F_79x G ((Int8.ofInt 72).toInt32)) 6 1 = some (.ref 7) := v61.trans hv.2.1
    obtain ⟨g, is, R', hg', kR, e, st⟩ := tx_rd_7 h1 n m22 H
    have eC : F_119tx G = mr_CX_7 (F_79x G ((Int8.ofInt 72).toInt32)) := by
      unfold mr_CX_7
      rw [F_119tx_e, pj_nm_e, show pj_rb (F_79x G ((Int8.ofInt 72).toInt32)) 6 1 7 = true from pj_rb_t hf1, pj_cT, pj_nm_e]
    have kR2 : pj_kpt mr_WR H R' := pj_kpt_t kH (pj_kpt_s kR rfl)
    have a : (mr_CX_7 (F_79x G ((Int8.ofInt 72).toInt32))).1 = (tx_EX H g n is R').1 := by
      unfold mr_CX_7
      exact tx_fin_7 H iC hf1 g hg' n is (by omega) hn (by omega) (by omega) (st.imp (fun q => ⟨q.1, q.2.1, q.2.2.1⟩) id)
    rw [e, eC]
    refine ⟨a, ?_⟩
    rcases mr_fin_7 H iC hf0 hf1 g hg' n is (by omega) hn (by omega) (by omega) st with ⟨b1, b2, b3, b4⟩ | ⟨b1, b2, b3⟩
    · refine ⟨.inl b2, .inl ⟨b1, b3, b4.1, b4.2.1, ?_, b4.2.2.2.1, b4.2.2.2.2⟩⟩
      rw [b4.2.2.1, kR2.1 (171, 7) (by decide)]
    · rw [b3]
      refine ⟨.inr (mr_Vk hv ((b2.2.1.2 (6, 0) (by decide)).trans v60) ((b2.2.1.2 (6, 1) (by decide)).trans v61) ((b2.1 (14, 0) (by decide)).trans (kC.1 (14, 0) (by decide))) ((b2.1 (14, 1) (by decide)).trans (kC.1 (14, 1) (by decide))) (fun j => (b2.2.2 15 (by decide) j).trans (kC.2.2 15 (by decide) j)) (fun j => (b2.2.2 16 (by decide) j).trans (kC.2.2 16 (by decide) j)) (fun j => (b2.2.2 17 (by decide) j).trans (kC.2.2 17 (by decide) j)) (fun j => (b2.2.2 18 (by decide) j).trans (kC.2.2 18 (by decide) j)) (kR2.1 (171, 3) (by decide)) (kR2.1 (171, 4) (by decide)) (kR2.2.2 173 (by decide)) (kR2.2.2 174 (by decide)) (kR2.2.2 175 (by decide)) (kR2.2.2 176 (by decide))), .inr ⟨b1, pj_kpt_t kA (pj_kpt_s b2 rfl), kR2⟩⟩
