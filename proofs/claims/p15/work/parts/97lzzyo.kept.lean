/-! kept, and gone back to, with all -/
theorem mr_nz0 : (vp_nar .boolean (Int32.ofInt 0)).toInt = 0 := by decide
theorem mr_sh3 {k : Nat} (h : k < 3) : mr_st (153 + 6 * k) := .inr ⟨16 + k, by omega, by omega⟩
theorem mr_keepS {B kc : Int} {C R : pj_G} (iC : pj_Inv C) (iR : pj_Inv R) (hS : mr_S B kc C R) (hK : mr_KS B kc C R) (i : Int32) : mr_S B kc (F_157nx C i).2 (F_282x R i).2 ∧ mr_KS B kc (F_157nx C i).2 (F_282x R i).2 := by
  have k0 : (Int32.ofInt 0).toInt = 0 := by decide
  have k3 : (Int32.ofInt 3).toInt = 3 := by decide
  have rb : (0 : Int) ≤ (pj_fi C 21 0).toInt ∧ (pj_fi C 21 0).toInt ≤ 6 := iC.2.1 21 0 (0, 6) rfl
  have rp : (0 : Int) ≤ (pj_fi C 21 5).toInt ∧ (pj_fi C 21 5).toInt ≤ 6 := iC.2.1 21 5 (0, 6) rfl
  have i0 : pj_Inv (pj_wv R 171 0 (.int (Int32.ofInt 0))) := pj_Inv_wi iR (ci := 12) rfl (fun q hq => by cases hq)
  obtain ⟨p1, p2⟩ := mr_in2 (pj_wv R 171 0 (.int (Int32.ofInt 0))) i
  have e157 : F_157nx C i = ((F_38nx C i).1, (F_38nx C i).2) := by rw [F_157nx_e, pj_bd_x]
  rw [e157, F_38nx_e, F_282x_e]
  simp only [pj_nm_x]
  have sR : mr_S B kc C (pj_wv R 171 0 (.int (Int32.ofInt 0))) := mr_Sf hS iC rfl rfl rfl (fun _ _ _ _ => rfl) (fun j _ => pj_ai_wv _ _ _ _ _ _)
  have kR : mr_KS B kc C (pj_wv R 171 0 (.int (Int32.ofInt 0))) := mr_KSf hK iC rfl rfl (fun _ => rfl) (fun _ _ _ => rfl) (fun _ _ _ _ => rfl) (fun j => pj_ai_wv _ _ _ _ _ _)
  by_cases q : 0 ≤ i.toInt ∧ i.toInt ≤ 2
  · obtain ⟨n, hn⟩ : ∃ n : Nat, i.toInt = (n : Int) := ⟨i.toInt.toNat, by omega⟩
    have en : i.toInt.toNat = n := by omega
    have n3 : n < 3 := by omega
    have eC : (if i.toInt = 0 then (Int32.ofInt 1, pj_wa (F_68_153_21x C) 56 i.toInt.toNat (vp_nar .boolean (Int32.ofInt 1))) else if i.toInt = 1 then (Int32.ofInt 1, pj_wa (F_68_159_21x C) 56 i.toInt.toNat (vp_nar .boolean (Int32.ofInt 1))) else (Int32.ofInt 1, pj_wa (F_68_165_21x C) 56 i.toInt.toNat (vp_nar .boolean (Int32.ofInt 1)))) = (Int32.ofInt 1, pj_wa (mr_bec (153 + 6 * n) 21 C) 56 n (vp_nar .boolean (Int32.ofInt 1))) := by
      rw [en]
      rcases (show n = 0 ∨ n = 1 ∨ n = 2 by omega) with e | e | e
      · subst e
        rw [if_pos (show i.toInt = 0 from hn), mr_bq_153_21]
      · subst e
        rw [if_neg (show ¬ i.toInt = 0 by omega), if_pos (show i.toInt = 1 from hn), mr_bq_159_21]
      · subst e
        rw [if_neg (show ¬ i.toInt = 0 by omega), if_neg (show ¬ i.toInt = 1 by omega), mr_bq_165_21]
    have s1 := mr_sb i0.1 (a := 200) rfl n (vp_nar .boolean (Int32.ofInt 1))
    have s2 := mr_sa s1 (a := 201) rfl n (pj_fi (pj_wa (pj_wv R 171 0 (.int (Int32.ofInt 0))) 200 n (vp_nar .boolean (Int32.ofInt 1))) 171 7)
    obtain ⟨V, z1, z2, z3, z4, z5, z6⟩ := mr_qsl R i (32 * n) 0 32 33 (Int32.ofInt 0) (pj_wa (pj_wa (pj_wv R 171 0 (.int (Int32.ofInt 0))) 200 n (vp_nar .boolean (Int32.ofInt 1))) 201 n (pj_fi (pj_wa (pj_wv R 171 0 (.int (Int32.ofInt 0))) 200 n (vp_nar .boolean (Int32.ofInt 1))) 171 7)) s2 (by omega) (by omega) (by omega) (by omega) (by decide)
    rw [pj_b0_ltF (show 0 ≤ i.toInt by omega), pj_cF, pj_b_ltT (show i.toInt < (Int32.ofInt 3).toInt by omega), pj_cT, eC, pj_b0_neT (show ¬ (F_171x (pj_wv R 171 0 (.int (Int32.ofInt 0))) i.toInt64 (Int64.ofNat 0) (Int64.ofInt 2)).toInt = 0 by have := p1 q; omega), pj_cT, en, z1]
    dsimp only
    have f0 : pj_fi (mr_bec (153 + 6 * n) 21 C) 21 0 = pj_fi C 21 0 := mr_bec_f _ _ _ _ _ (by omega)
    have f5 : pj_fi (mr_bec (153 + 6 * n) 21 C) 21 5 = pj_fi C 21 5 := mr_bec_f _ _ _ _ _ (by omega)
    have r179 : ∀ k, pj_ai V 179 k = pj_ai R 179 k := fun k => by rw [z4 179 _ (by decide), pj_ai_wa_ne _ _ _ _ _ _ (by decide), pj_ai_wa_ne _ _ _ _ _ _ (by decide), pj_ai_wv]
    have r202 : ∀ j : Nat, j < 32 * n ∨ 32 * n + 32 ≤ j → pj_ai V 202 j = pj_ai R 202 j := fun j hj => by rw [z6 j (by omega), pj_ai_wa_ne _ _ _ _ _ _ (by decide), pj_ai_wa_ne _ _ _ _ _ _ (by decide), pj_ai_wv]
    have w : ∀ {s a o : Nat} {nb np : Int} {E : pj_G}, mr_row (mr_bec (153 + 6 * n) 21 C) s E a o nb np B kc → 56 < s ∨ s ≤ 50 → mr_row (pj_wa (mr_bec (153 + 6 * n) 21 C) 56 n (vp_nar .boolean (Int32.ofInt 1))) s E a o nb np B kc := fun h hs => mr_rowk h (fun j => pj_ai_wa_ne _ _ _ _ _ _ (by omega)) (fun j => pj_ai_wa_ne _ _ _ _ _ _ (by omega)) (fun j => pj_ai_wa_ne _ _ _ _ _ _ (by omega)) (fun j => pj_ai_wa_ne _ _ _ _ _ _ (by omega)) (fun j => pj_ai_wa_ne _ _ _ _ _ _ (by omega)) (pj_fi_wa _ _ _ _ _ _)
    refine ⟨?_, fun t ht h1 h2 h3 => ?_⟩
    · unfold mr_S
      rw [pj_fi_wa, pj_fi_wa, f0, f5]
      exact w (mr_rowR rb.2 rp.2 (mr_rowu (f := 21) (mr_sh3 n3) mr_st21 (by omega) hS) (fun k hk => r179 _)) (by omega)
    · rw [pj_fi_wa, pj_fi_wa, f0, f5]
      by_cases e : t = n
      · subst e
        exact w (mr_rowR rb.2 rp.2 (mr_rowC (mr_sh3 n3) mr_st21 (by omega) iC.1 rb.2 rp.2 hS) (fun k hk => by rw [z5 k (by omega) hk, pj_ai_wa_ne _ _ _ _ _ _ (by decide), pj_ai_wa_ne _ _ _ _ _ _ (by decide), pj_ai_wv])) (by omega)
      · rw [pj_ai_wa_nj _ _ _ _ _ e, mr_bec_n _ _ _ _ _ (by omega)] at h1
        rw [pj_fi_wa, pj_fi_wa, mr_bec_f _ _ _ _ _ (by omega), f0] at h2
        rw [pj_fi_wa, pj_fi_wa, mr_bec_f _ _ _ _ _ (by omega), f5] at h3
        exact w (mr_rowR rb.2 rp.2 (mr_rowu (f := 21) (mr_sh3 n3) (mr_sh3 ht) (by omega) (hK t ht h1 h2 h3)) (fun k hk => r202 _ (by omega))) (by omega)
  · rw [pj_b0_neF (p2 q), pj_cF]
    by_cases l : i.toInt < 0
    · rw [pj_b0_ltT l, pj_cT]
      exact ⟨sR, kR⟩
    · rw [pj_b0_ltF (by omega), pj_cF, pj_b_ltF (show (Int32.ofInt 3).toInt ≤ i.toInt by omega), pj_cF]
      exact ⟨sR, kR⟩
theorem mr_againS {B kc : Int} {C R : pj_G} (iC : pj_Inv C) (iR : pj_Inv R) (hK : mr_K C R) (hS : mr_S B kc C R) (hU : mr_U B kc C R) (hKS : mr_KS B kc C R) (i : Int32) : (F_158nx C i).1 = (F_283x R i).1 ∧ mr_S B kc (F_158nx C i).2 (F_283x R i).2 ∧ mr_U B kc (F_158nx C i).2 (F_283x R i).2 ∧ mr_KS B kc (F_158nx C i).2 (F_283x R i).2 := by
  have k0 : (Int32.ofInt 0).toInt = 0 := by decide
  have k1 : (Int32.ofInt 1).toInt = 1 := by decide
  have rb : (0 : Int) ≤ (pj_fi C 21 0).toInt ∧ (pj_fi C 21 0).toInt ≤ 6 := iC.2.1 21 0 (0, 6) rfl
  have rp : (0 : Int) ≤ (pj_fi C 21 5).toInt ∧ (pj_fi C 21 5).toInt ≤ 6 := iC.2.1 21 5 (0, 6) rfl
  have i0 : pj_Inv (pj_wv R 171 0 (.int (Int32.ofInt 0))) := pj_Inv_wi iR (ci := 12) rfl (fun q hq => by cases hq)
  have f7 : pj_fi (pj_wv R 171 0 (.int (Int32.ofInt 0))) 171 7 = pj_fi R 171 7 := pj_fi_wv_ne _ _ _ _ _ _ (by decide)
  have aR : ∀ a j, pj_ai (pj_wv R 171 0 (.int (Int32.ofInt 0))) a j = pj_ai R a j := fun a j => pj_ai_wv _ _ _ _ _ _
  have sR : mr_S B kc C (pj_wv R 171 0 (.int (Int32.ofInt 0))) := mr_Sf hS iC rfl rfl rfl (fun _ _ _ _ => rfl) (fun j _ => aR _ _)
  have uR : mr_U B kc C (pj_wv R 171 0 (.int (Int32.ofInt 0))) := mr_Uk hU ⟨rfl, rfl, rfl, rfl, fun _ _ => ⟨rfl, fun _ _ _ _ => rfl⟩⟩ ⟨by rw [pj_fi_wv_ne _ _ _ _ _ _ (by decide)], fun j => aR _ _⟩
  have kR : mr_KS B kc C (pj_wv R 171 0 (.int (Int32.ofInt 0))) := mr_KSf hKS iC rfl rfl (fun _ => rfl) (fun _ _ _ => rfl) (fun _ _ _ _ => rfl) (fun j => aR _ _)
  obtain ⟨p1, p2⟩ := mr_in2 (pj_wv R 171 0 (.int (Int32.ofInt 0))) i
  obtain ⟨ry, -, ans⟩ := fr_39nkx C iC i
  have ay := mr_Kan hK i (F_39nkx C i) ans ry
  obtain ⟨g1, g2⟩ := mr_againR R i
  have e36 : ∀ G : pj_G, F_36nx G = pj_wv G 53 2 (.int (Int32.ofInt 0)) := fun G => by
    rw [F_36nx_e]
    simp only [pj_nm_x]
  rw [F_158nx_e]
  simp only [pj_nm_x, e36]
  by_cases z : (0 ≤ i.toInt ∧ i.toInt ≤ 2) ∧ ¬ (pj_ai R 200 i.toInt.toNat).toInt = 0 ∧ (pj_ai R 201 i.toInt.toNat).toInt = (pj_fi R 171 7).toInt
  · have y1 : (F_39nkx C i).toInt = 1 := by rw [ay]; exact g1 z
    obtain ⟨-, -, x56, x0, x1, x2⟩ := ans.1 (by omega)
    obtain ⟨⟨z1, z2⟩, z3, z4⟩ := z
    obtain ⟨n, hn⟩ : ∃ n : Nat, i.toInt = (n : Int) := ⟨i.toInt.toNat, by omega⟩
    have en : i.toInt.toNat = n := by omega
    have n3 : n < 3 := by omega
    have cnt : (pj_fi C (153 + 6 * n) 0).toInt = (pj_fi C 21 0).toInt ∧ (pj_fi C (153 + 6 * n) 5).toInt = (pj_fi C 21 5).toInt := by
      rcases (show n = 0 ∨ n = 1 ∨ n = 2 by omega) with e | e | e
      · subst e
        exact x0 hn
      · subst e
        exact x1 hn
      · subst e
        exact x2 hn
    have eC : (if i.toInt = 0 then (Int32.ofInt 1, pj_wv (F_68_21_153x C) 53 2 (.int (Int32.ofInt 0))) else if i.toInt = 1 then (Int32.ofInt 1, pj_wv (F_68_21_159x C) 53 2 (.int (Int32.ofInt 0))) else (Int32.ofInt 1, pj_wv (F_68_21_165x C) 53 2 (.int (Int32.ofInt 0)))) = (Int32.ofInt 1, pj_wv (mr_bec 21 (153 + 6 * n) C) 53 2 (.int (Int32.ofInt 0))) := by
      rcases (show n = 0 ∨ n = 1 ∨ n = 2 by omega) with e | e | e
      · subst e
        rw [if_pos (show i.toInt = 0 from hn), mr_bq_21_153]
      · subst e
        rw [if_neg (show ¬ i.toInt = 0 by omega), if_pos (show i.toInt = 1 from hn), mr_bq_21_159]
      · subst e
        rw [if_neg (show ¬ i.toInt = 0 by omega), if_neg (show ¬ i.toInt = 1 by omega), mr_bq_21_165]
    obtain ⟨V, v1, v2, v3, v4, v5, v6⟩ := mr_wsl R i 0 (32 * n) 32 33 (Int32.ofInt 0) (pj_wv R 171 0 (.int (Int32.ofInt 0))) i0.1 (by omega) (by omega) (by omega) (by omega) (by decide)
    have eR : F_283x R i = (Int32.ofInt 1, pj_wv V 171 30 (.int (Int32.ofInt 0))) := by
      rw [F_283x_e]
      simp only [pj_nm_x, f7, aR]
      rw [pj_b0_eqF (show ¬ (F_171x (pj_wv R 171 0 (.int (Int32.ofInt 0))) i.toInt64 (Int64.ofNat 0) (Int64.ofInt 2)).toInt = 0 by have := p1 ⟨z1, z2⟩; omega), pj_cF, pj_b0_eqF z3, pj_cF, pj_b_eqT z4, pj_cT, v1]
    rw [eR, pj_b0_neT (show ¬ (F_39nkx C i).toInt = 0 by omega), pj_cT, eC]
    dsimp only
    obtain ⟨s1, t0, t5, t7, -⟩ := mr_bec_r (t := 21) (f := 153 + 6 * n) mr_st21 (mr_sh3 n3) (by omega) iC.1
    have w0 : pj_fi (pj_wv (mr_bec 21 (153 + 6 * n) C) 53 2 (.int (Int32.ofInt 0))) 21 0 = pj_fi C 21 0 := (pj_fi_wv_ne _ _ _ _ _ _ (by decide)).trans (t0.trans (Int32.toInt_inj.mp cnt.1))
    have w5 : pj_fi (pj_wv (mr_bec 21 (153 + 6 * n) C) 53 2 (.int (Int32.ofInt 0))) 21 5 = pj_fi C 21 5 := (pj_fi_wv_ne _ _ _ _ _ _ (by decide)).trans (t5.trans (Int32.toInt_inj.mp cnt.2))
    have w53 : (pj_fi (pj_wv (mr_bec 21 (153 + 6 * n) C) 53 2 (.int (Int32.ofInt 0))) 53 2).toInt = 0 := by rw [pj_fi_wi s1 (a := 53) (ci := 4) (k := 2) rfl]; exact k0
    have w30 : (pj_fi (pj_wv V 171 30 (.int (Int32.ofInt 0))) 171 30).toInt = 0 := by rw [pj_fi_wi v2 (a := 171) (ci := 12) (k := 30) rfl]; exact k0
    have wr : ∀ {s a o : Nat} {nb np : Int} {E : pj_G}, mr_row (mr_bec 21 (153 + 6 * n) C) s E a o nb np B kc → s ≠ 53 → mr_row (pj_wv (mr_bec 21 (153 + 6 * n) C) 53 2 (.int (Int32.ofInt 0))) s E a o nb np B kc := fun h hs => mr_rowk h (fun j => pj_ai_wv _ _ _ _ _ _) (fun j => pj_ai_wv _ _ _ _ _ _) (fun j => pj_ai_wv _ _ _ _ _ _) (fun j => pj_ai_wv _ _ _ _ _ _) (fun j => pj_ai_wv _ _ _ _ _ _) (pj_fi_wv_ne _ _ _ _ _ _ (fun q => hs q.1))
    have row := hKS n n3 (by rw [← en]; exact x56) cnt.1 cnt.2
    refine ⟨rfl, ?_, ⟨by rw [w53, w30], fun t k ht => absurd ht (by omega)⟩, fun t ht h1 h2 h3 => ?_⟩
    · unfold mr_S
      rw [w0, w5]
      exact wr (mr_rowR rb.2 rp.2 (mr_rowC mr_st21 (mr_sh3 n3) (by omega) iC.1 rb.2 rp.2 row) (fun k hk => by rw [pj_ai_wv, v5 k (by omega) hk, aR])) (by decide)
    · rw [w0, w5]
      rw [pj_ai_wv, mr_bec_n _ _ _ _ _ (by omega)] at h1
      rw [w0, pj_fi_wv_ne _ _ _ _ _ _ (by omega), mr_bec_f _ _ _ _ _ (by omega)] at h2
      rw [w5, pj_fi_wv_ne _ _ _ _ _ _ (by omega), mr_bec_f _ _ _ _ _ (by omega)] at h3
      exact wr (mr_rowR rb.2 rp.2 (mr_rowu (f := 153 + 6 * n) mr_st21 (mr_sh3 ht) (by omega) (hKS t ht h1 h2 h3)) (fun k hk => by rw [pj_ai_wv, v4 202 _ (by decide), aR])) (by omega)
  · have y0 : (F_39nkx C i).toInt = 0 := by rw [ay]; exact g2 z
    have eR : F_283x R i = (Int32.ofInt 0, pj_wv R 171 0 (.int (Int32.ofInt 0))) := by
      rw [F_283x_e]
      simp only [pj_nm_x, f7, aR]
      by_cases a : 0 ≤ i.toInt ∧ i.toInt ≤ 2
      · rw [pj_b0_eqF (show ¬ (F_171x (pj_wv R 171 0 (.int (Int32.ofInt 0))) i.toInt64 (Int64.ofNat 0) (Int64.ofInt 2)).toInt = 0 by have := p1 a; omega), pj_cF]
        by_cases b : (pj_ai R 200 i.toInt.toNat).toInt = 0
        · rw [pj_b0_eqT b, pj_cT]
        · rw [pj_b0_eqF b, pj_cF, pj_b_eqF (show ¬ (pj_ai R 201 i.toInt.toNat).toInt = (pj_fi R 171 7).toInt from fun c => z ⟨a, b, c⟩), pj_cF]
      · rw [pj_b0_eqT (p2 a), pj_cT]
    rw [eR, pj_b0_neF y0, pj_cF]
    exact ⟨rfl, sR, uR, kR⟩
