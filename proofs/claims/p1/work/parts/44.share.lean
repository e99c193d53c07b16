/-! BOTH COUNT ALIKE -/
theorem pj_mc_cn (w k who : Int32) : ∀ (d : Nat) (h x : Int32), pj_cn w k who d h x = pj_mc (pj_cnd w k who) d h x
  | 0, h, x => rfl
  | d + 1, h, x => by
    show pj_cn w k who d (h + Int32.ofInt 1) (match pj_cnd w k who h with
      | true => x + Int32.ofInt 1
      | false => x) = pj_mc (pj_cnd w k who) d (h + Int32.ofInt 1) (x + pj_b2 (pj_cnd w k who h))
    rw [pj_mc_cn w k who d]
    cases pj_cnd w k who h with
    | true => rfl
    | false =>
      show pj_mc _ d _ x = pj_mc _ d _ (x + Int32.ofInt 0)
      rw [show Int32.ofInt 0 = (0 : Int32) from rfl, Int32.add_zero]
theorem pj_mc_congr {f g : Int32 → Bool} (hfg : ∀ h : Int32, 0 ≤ h.toInt → h.toInt < 48 → f h = g h) : ∀ (d : Nat) (h x : Int32), 0 ≤ h.toInt → h.toInt + d ≤ 48 → pj_mc f d h x = pj_mc g d h x
  | 0, h, x, _, _ => rfl
  | d + 1, h, x, h0, hd => by
    have e : (h + Int32.ofInt 1).toInt = h.toInt + 1 := pj_inc (n := Int32.ofInt 48) (by
      have : (Int32.ofInt 48).toInt = 48 := by decide
      omega)
    show pj_mc f d (h + Int32.ofInt 1) (x + pj_b2 (f h)) = pj_mc g d (h + Int32.ofInt 1) (x + pj_b2 (g h))
    rw [hfg h h0 (by omega)]
    exact pj_mc_congr hfg d _ _ (by omega) (by omega)
set_option maxRecDepth 100000 in
theorem pj_q01a : ∀ h : Nat, h < 48 → ∀ k : Nat, k < 48 → pj_qq2 (Int32.ofInt h) (Int32.ofInt (k + 1)) = 0 ∨ pj_qq2 (Int32.ofInt h) (Int32.ofInt (k + 1)) = 1 := by decide +kernel
theorem pj_q01 {h k : Int32} (h1 : 0 ≤ h.toInt) (h2 : h.toInt < 48) (k1 : 1 ≤ k.toInt) (k2 : k.toInt ≤ 48) : pj_qq2 h k = 0 ∨ pj_qq2 h k = 1 := by
  have e := pj_q01a h.toInt.toNat (by omega) (k.toInt - 1).toNat (by omega)
  have e1 : ((h.toInt.toNat : Nat) : Int) = h.toInt := by omega
  have e2 : (((k.toInt - 1).toNat : Nat) : Int) + 1 = k.toInt := by omega
  rw [e1, e2, Int32.ofInt_toInt, Int32.ofInt_toInt] at e
  exact e
theorem pj_hwf_1 (w n k : Int32) (h3 : 1 ≤ n.toInt ∧ n.toInt ≤ 48) : pj_hwf w n k (Int32.ofInt 0) = pj_mc (pj_fy1 w k) n.toInt.toNat (Int32.ofInt 0) (Int32.ofInt 0) := by
  unfold pj_hwf
  rw [pj_mc_cn]
  rfl
theorem pj_hwf_2 (w n k : Int32) (h3 : 1 ≤ n.toInt ∧ n.toInt ≤ 48) (h4 : 1 ≤ k.toInt ∧ k.toInt ≤ 48) : pj_hwf w n k (Int32.ofInt 1) = pj_mc (pj_fy2 w k) n.toInt.toNat (Int32.ofInt 0) (Int32.ofInt 0) := by
  unfold pj_hwf
  rw [pj_mc_cn]
  refine pj_mc_congr (fun h h1 h2 => ?_) _ _ _ (by rw [pj_li0]; exact Int.le_refl _) (by rw [pj_li0]; omega)
  unfold pj_cnd pj_fy2
  have e1 : Int32.ofInt 1 = (1 : Int32) := rfl
  rw [e1]
  rcases pj_q01 h1 h2 h4.1 h4.2 with e | e
  · rw [e]
    rfl
  · rw [e]
    rfl
theorem pj_mc_bd (f : Int32 → Bool) : ∀ (d : Nat) (h x : Int32), 0 ≤ x.toInt → x.toInt + d ≤ 1000 → 0 ≤ (pj_mc f d h x).toInt ∧ (pj_mc f d h x).toInt ≤ x.toInt + d
  | 0, h, x, h0, hd => ⟨h0, by show x.toInt ≤ _; omega⟩
  | d + 1, h, x, h0, hd => by
    have e : (x + pj_b2 (f h)).toInt = x.toInt ∨ (x + pj_b2 (f h)).toInt = x.toInt + 1 := by
      cases f h with
      | true => exact Or.inr (pj_inc (n := Int32.ofInt 2000) (by
          have : (Int32.ofInt 2000).toInt = 2000 := by decide
          omega))
      | false =>
        refine Or.inl ?_
        show (x + Int32.ofInt 0).toInt = x.toInt
        rw [show Int32.ofInt 0 = (0 : Int32) from rfl, Int32.add_zero]
    obtain ⟨k1, k2⟩ := pj_mc_bd f d (h + Int32.ofInt 1) (x + pj_b2 (f h)) (by omega) (by omega)
    show 0 ≤ (pj_mc f d (h + Int32.ofInt 1) (x + pj_b2 (f h))).toInt ∧ (pj_mc f d (h + Int32.ofInt 1) (x + pj_b2 (f h))).toInt ≤ _
    omega
theorem pj_hwf_bd (w n k who : Int32) (h3 : 1 ≤ n.toInt ∧ n.toInt ≤ 48) : 0 ≤ (pj_hwf w n k who).toInt ∧ (pj_hwf w n k who).toInt ≤ 48 := by
  unfold pj_hwf
  rw [pj_mc_cn]
  have e := pj_mc_bd (pj_cnd w k who) n.toInt.toNat (Int32.ofInt 0) (Int32.ofInt 0) (by rw [pj_li0]; exact Int.le_refl _) (by rw [pj_li0]; omega)
  rw [pj_li0] at e
  omega
theorem pj_sm_bd (one other n k : Int32) (h3 : 1 ≤ n.toInt ∧ n.toInt ≤ 48) : 0 ≤ (pj_sm one other n k).toInt := by
  unfold pj_sm
  have e1 := pj_hwf_bd one n k (Int32.ofInt 0) h3
  have e2 := pj_hwf_bd other n k (Int32.ofInt 1) h3
  rw [Int32.toInt_add]
  have e3 : ((pj_hwf one n k (Int32.ofInt 0)).toInt + (pj_hwf other n k (Int32.ofInt 1)).toInt).bmod (2 ^ 32) = (pj_hwf one n k (Int32.ofInt 0)).toInt + (pj_hwf other n k (Int32.ofInt 1)).toInt := Int.bmod_eq_of_le (by omega) (by omega)
  rw [e3]
  omega
/-- sharesBy, whole -/
theorem pj_sharesE {G : pj_G} {a : Nat} {c0 : pj_C} {fs : List Value} (hc : pj_get G a = some c0) (hl : fs.length = 60) (p q n k : Int32) (h3 : 1 ≤ n.toInt ∧ n.toInt ≤ 48) (h4 : 1 ≤ k.toInt ∧ k.toInt ≤ 48) : pj_E (pj_cx 2) 270 [.ref a, .int p, .int q, .int n, .int k] (pj_ob G a fs) (none, pj_ob G a (pj_w4 fs (pj_hwf p n k (Int32.ofInt 0)) (pj_hwf q n k (Int32.ofInt 1)) (pj_hwf p n k (Int32.ofInt 1)) (pj_hwf q n k (Int32.ofInt 0))), 0, 0) := by
  rw [pj_hwf_1 p n k h3, pj_hwf_1 q n k h3, pj_hwf_2 p n k h3 h4, pj_hwf_2 q n k h3 h4]
  obtain ⟨d, hd⟩ : ∃ d : Nat, n.toInt.toNat = d + 1 := ⟨n.toInt.toNat - 1, by omega⟩
  have key := pj_sb_loop hc hl p q n k (by omega) d (Int32.ofInt 0) (Int32.ofInt 0) (Int32.ofInt 0) (Int32.ofInt 0) (Int32.ofInt 0) (by rw [pj_li0]; omega)
  have key2 := (pj_sb_head _ (Int32.ofInt 0) p q n k 0 0 0 (by omega) (by rw [pj_li0]; omega) key).1
  rw [hd]
  refine pj_E_R (M := pj_m270) rfl rfl (Nat.le_of_ble_eq_true rfl) ?_
  show pj_R _ _ _ _ (pj_ob G a fs, 0, [(0, .ref a), (1, .int p), (2, .int q), (3, .int n), (4, .int k)], [], 0, 0) _
  refine pj_R_to (pj_ob G a fs, 2, [(0, .ref a), (1, .int p), (2, .int q), (3, .int n), (4, .int k)], [.int (Int32.ofInt 0), .ref a], 0, 0) 2 3 (fun _ => rfl) ?_
  refine pj_R_po hc rfl rfl (by show 52 < _; simp only [List.length_set, hl]; decide) rfl ?_
  show pj_R _ _ _ _ (pj_ob G a (fs.set 52 (.int (Int32.ofInt 0))), 5, [(0, .ref a), (1, .int p), (2, .int q), (3, .int n), (4, .int k)], [], 0, 0) _
  refine pj_R_to (pj_ob G a (fs.set 52 (.int (Int32.ofInt 0))), 7, [(0, .ref a), (1, .int p), (2, .int q), (3, .int n), (4, .int k)], [.int (Int32.ofInt 0), .ref a], 0, 0) 7 3 (fun _ => rfl) ?_
  refine pj_R_po hc rfl rfl (by show 53 < _; simp only [List.length_set, hl]; decide) rfl ?_
  show pj_R _ _ _ _ (pj_ob G a ((fs.set 52 (.int (Int32.ofInt 0))).set 53 (.int (Int32.ofInt 0))), 10, [(0, .ref a), (1, .int p), (2, .int q), (3, .int n), (4, .int k)], [], 0, 0) _
  refine pj_R_to (pj_ob G a ((fs.set 52 (.int (Int32.ofInt 0))).set 53 (.int (Int32.ofInt 0))), 12, [(0, .ref a), (1, .int p), (2, .int q), (3, .int n), (4, .int k)], [.int (Int32.ofInt 0), .ref a], 0, 0) 12 3 (fun _ => rfl) ?_
  refine pj_R_po hc rfl rfl (by show 54 < _; simp only [List.length_set, hl]; decide) rfl ?_
  show pj_R _ _ _ _ (pj_ob G a (((fs.set 52 (.int (Int32.ofInt 0))).set 53 (.int (Int32.ofInt 0))).set 54 (.int (Int32.ofInt 0))), 15, [(0, .ref a), (1, .int p), (2, .int q), (3, .int n), (4, .int k)], [], 0, 0) _
  refine pj_R_to (pj_ob G a (((fs.set 52 (.int (Int32.ofInt 0))).set 53 (.int (Int32.ofInt 0))).set 54 (.int (Int32.ofInt 0))), 17, [(0, .ref a), (1, .int p), (2, .int q), (3, .int n), (4, .int k)], [.int (Int32.ofInt 0), .ref a], 0, 0) 17 3 (fun _ => rfl) ?_
  refine pj_R_po hc rfl rfl (by show 55 < _; simp only [List.length_set, hl]; decide) rfl ?_
  show pj_R _ _ _ _ (pj_ob G a ((((fs.set 52 (.int (Int32.ofInt 0))).set 53 (.int (Int32.ofInt 0))).set 54 (.int (Int32.ofInt 0))).set 55 (.int (Int32.ofInt 0))), 20, [(0, .ref a), (1, .int p), (2, .int q), (3, .int n), (4, .int k)], [], 0, 0) _
  refine pj_R_to (pj_ob G a ((((fs.set 52 (.int (Int32.ofInt 0))).set 53 (.int (Int32.ofInt 0))).set 54 (.int (Int32.ofInt 0))).set 55 (.int (Int32.ofInt 0))), 23, [(5, .int (Int32.ofInt 0)), (0, .ref a), (1, .int p), (2, .int q), (3, .int n), (4, .int k)], [], 0, 0) 23 3 (fun _ => rfl) ?_
  exact key2
theorem pj_entersE {G : pj_G} {a rw_ : Nat} {c0 : pj_C} {fs : List Value} {f : Nat → Int64} (hc : pj_get G a = some c0) (hl : fs.length = 60) (hne : rw_ ≠ a) (hr : pj_get G rw_ = some (.inl (1, 24, .inr (.inl f)))) (h2 : fs[2]? = some (.ref rw_)) (s : Int32) (h1 : fs[1]? = some (.int s)) (hs : ¬ (s < 0 ∨ 24 ≤ s.toNatClampNeg)) (v : Int64) : ∃ G2 f2, pj_E (pj_cx 1) 175 [.ref a, .long v] (pj_ob G a fs) (none, pj_ob G2 a (fs.set 1 (.int (s + Int32.ofInt 1))), 0, 0) ∧ pj_get G2 a = some c0 ∧ pj_get G2 rw_ = some (.inl (1, 24, .inr (.inl f2))) := by
  have k1 : pj_get (pj_ob G a fs) rw_ = some (.inl (1, 24, .inr (.inl f))) := by
    unfold pj_ob
    rw [pj_gn hc hne, hr]
  refine ⟨pj_put G rw_ (.inl (1, 24, .inr (.inl (vp_updL f s.toNatClampNeg v)))), _, ?_, by rw [pj_gn hr (Ne.symm hne), hc], pj_gp hr⟩
  have hc2 : pj_get (pj_put G rw_ (.inl (1, 24, .inr (.inl (vp_updL f s.toNatClampNeg v))))) a = some c0 := by rw [pj_gn hr (Ne.symm hne), hc]
  have e : pj_put (pj_ob G a fs) rw_ (.inl (1, 24, .inr (.inl (vp_updL f s.toNatClampNeg v)))) = pj_ob (pj_put G rw_ (.inl (1, 24, .inr (.inl (vp_updL f s.toNatClampNeg v))))) a fs := by
    cases a with
    | zero => cases hc
    | succ i =>
      cases rw_ with
      | zero => cases hr
      | succ j =>
        unfold pj_ob pj_put
        show ((G.1.set i _).set j _, _) = ((G.1.set j _).set i _, _)
        rw [List.set_comm _ _ (by omega)]
  refine pj_E_R (M := pj_m175) rfl rfl (Nat.le_of_ble_eq_true rfl) ?_
  show pj_R _ _ _ _ (pj_ob G a fs, 0, [(0, .ref a), (1, .long v)], [], 0, 0) _
  refine pj_R_to (pj_ob G a fs, 1, [(0, .ref a), (1, .long v)], [.ref a], 0, 0) 1 2 (fun _ => rfl) ?_
  refine pj_R_go hc rfl rfl h2 ?_
  refine pj_R_to (pj_ob G a fs, 5, [(0, .ref a), (1, .long v)], [.ref a, .ref rw_], 0, 0) 5 2 (fun _ => rfl) ?_
  refine pj_R_go hc rfl rfl h1 ?_
  refine pj_R_to (pj_ob G a fs, 9, [(0, .ref a), (1, .long v)], [.long v, .int s, .ref rw_], 0, 0) 9 2 (fun _ => rfl) ?_
  refine pj_R_la rfl k1 hs ?_
  rw [e]
  refine pj_R_to (pj_ob (pj_put G rw_ (.inl (1, 24, .inr (.inl (vp_updL f s.toNatClampNeg v))))) a fs, 12, [(0, .ref a), (1, .long v)], [.ref a, .ref a], 0, 0) 12 3 (fun _ => rfl) ?_
  refine pj_R_go hc2 rfl rfl h1 ?_
  refine pj_R_to (pj_ob (pj_put G rw_ (.inl (1, 24, .inr (.inl (vp_updL f s.toNatClampNeg v))))) a fs, 17, [(0, .ref a), (1, .long v)], [.int (s + (Int32.ofInt 1)), .ref a], 0, 0) 17 3 (fun _ => rfl) ?_
  refine pj_R_po hc2 rfl rfl (by show 1 < fs.length; rw [hl]; decide) rfl ?_
  show pj_R _ _ _ _ (pj_ob (pj_put G rw_ (.inl (1, 24, .inr (.inl (vp_updL f s.toNatClampNeg v))))) a (fs.set 1 (.int (s + Int32.ofInt 1))), 20, [(0, .ref a), (1, .long v)], [], 0, 0) _
  exact pj_R_rt rfl rfl
theorem pj_shareM {G : pj_G} {a rw_ : Nat} {fs : List Value} {f : Nat → Int64} (hm : pj_get G a = some (.inr (12, fs))) (hl : fs.length = 60) (hr : pj_get G rw_ = some (.inl (1, 24, .inr (.inl f)))) (hfr : fs[2]? = some (.ref rw_)) (p q n k : Int32) (h1 : 0 ≤ p.toInt ∧ p.toInt ≤ 16777215) (h2 : 0 ≤ q.toInt ∧ q.toInt ≤ 16777215) (h3 : 1 ≤ n.toInt ∧ n.toInt ≤ 48) (h4 : 1 ≤ k.toInt ∧ k.toInt ≤ 48) : ∃ G', pj_E (pj_cx 3) 272 [.ref a, .int p, .int q, .int n, .int k] G (some (.int (pj_hwf p n k (Int32.ofInt 0) + pj_hwf q n k (Int32.ofInt 1))), G', 0, 0) := by
  have hne : rw_ ≠ a := fun e => by
    rw [e, hm] at hr
    cases hr
  have hc := hm
  have z1 : (Int64.ofNat 1).toInt = 1 := by decide
  have z48 : (Int64.ofInt 48).toInt = 48 := by decide
  have hgt : pj_get (pj_ob G a (fs.set 0 (.int (Int32.ofInt 0)))) a = some (.inr (12, fs.set 0 (.int (Int32.ofInt 0)))) := pj_gp hm
  have hl0 : (fs.set 0 (.int (Int32.ofInt 0))).length = 60 := by rw [List.length_set, hl]
  obtain ⟨w, hw⟩ : ∃ w, w = pj_w4 (fs.set 0 (.int (Int32.ofInt 0))) (pj_hwf p n k (Int32.ofInt 0)) (pj_hwf q n k (Int32.ofInt 1)) (pj_hwf p n k (Int32.ofInt 1)) (pj_hwf q n k (Int32.ofInt 0)) := ⟨_, rfl⟩
  have hlw : w.length = 60 := by rw [hw, pj_w4_len, hl0]
  have e1 := pj_sharesE hc hl0 p q n k h3 h4
  rw [← hw] at e1
  have w2 : w[2]? = some (.ref rw_) := by rw [hw, pj_w4_lo _ _ _ _ _ (by decide), List.getElem?_set_ne (by decide), hfr]
  have w52 : w[52]? = some (.int (pj_hwf p n k (Int32.ofInt 0))) := by rw [hw]; exact pj_w4_52 hl0 _ _ _ _
  have w53 : w[53]? = some (.int (pj_hwf q n k (Int32.ofInt 1))) := by rw [hw]; exact pj_w4_53 hl0 _ _ _ _
  have w54 : w[54]? = some (.int (pj_hwf p n k (Int32.ofInt 1))) := by rw [hw]; exact pj_w4_54 hl0 _ _ _ _
  have w55 : w[55]? = some (.int (pj_hwf q n k (Int32.ofInt 0))) := by rw [hw]; exact pj_w4_55 hl0 _ _ _ _
  clear hw
  have l1 : (w.set 1 (.int (Int32.ofInt 0))).length = 60 := by rw [List.length_set, hlw]
  obtain ⟨G2, f2, e2, hc2, hr2⟩ := pj_entersE hc l1 hne hr (by rw [List.getElem?_set_ne (by decide), w2]) (Int32.ofInt 0) (by rw [List.getElem?_set_self (by rw [hlw]; decide)]) (by decide) (pj_hwf p n k (Int32.ofInt 1)).toInt64
  rw [List.set_set] at e2
  have l2 : (w.set 1 (.int (Int32.ofInt 0 + Int32.ofInt 1))).length = 60 := by rw [List.length_set, hlw]
  obtain ⟨G3, f3, e3, hc3, hr3⟩ := pj_entersE hc2 l2 hne hr2 (by rw [List.getElem?_set_ne (by decide), w2]) (Int32.ofInt 0 + Int32.ofInt 1) (by rw [List.getElem?_set_self (by rw [hlw]; decide)]) (by decide) (pj_hwf q n k (Int32.ofInt 0)).toInt64
  rw [List.set_set] at e3
  refine ⟨pj_ob G3 a (w.set 1 (.int (Int32.ofInt 0 + Int32.ofInt 1 + Int32.ofInt 1))), ?_⟩
  refine pj_E_R (M := pj_m272) rfl rfl (Nat.le_of_ble_eq_true rfl) ?_
  show pj_R _ _ _ _ (G, 0, [(0, .ref a), (1, .int p), (2, .int q), (3, .int n), (4, .int k)], [], 0, 0) _
  refine pj_R_to (G, 2, [(0, .ref a), (1, .int p), (2, .int q), (3, .int n), (4, .int k)], [.int (Int32.ofInt 0), .ref a], 0, 0) 2 3 (fun _ => rfl) ?_
  refine pj_R_pf rfl hm (by show 0 < fs.length; rw [hl]; decide) rfl ?_
  show pj_R _ _ _ _ (pj_ob G a (fs.set 0 (.int (Int32.ofInt 0))), 5, [(0, .ref a), (1, .int p), (2, .int q), (3, .int n), (4, .int k)], [], 0, 0) _
  refine pj_R_to (pj_ob G a (fs.set 0 (.int (Int32.ofInt 0))), 9, [(0, .ref a), (1, .int p), (2, .int q), (3, .int n), (4, .int k)], [.int n, .int q, .int p, .ref a], 0, 0) 9 5 (fun _ => rfl) ?_
  refine pj_R_ca (pj_cx_mon _) (vs := [.ref a, .int p, .int q, .int n]) (S2 := [.int (Int32.ofInt 1)]) rfl (fun _ => rfl) ⟨Nat.le_of_ble_eq_true rfl, Nat.le_of_ble_eq_true rfl, pj_rcvI hgt⟩ ⟨rfl, rfl, rfl⟩ (pj_canE _ a p q n h1 h2 h3) ?_
  show pj_R _ _ _ _ (pj_ob G a (fs.set 0 (.int (Int32.ofInt 0))), 12, [(0, .ref a), (1, .int p), (2, .int q), (3, .int n), (4, .int k)], [.int (Int32.ofInt 1)], 0, 0) _
  refine pj_R_ifF rfl (by decide) ?_
  refine pj_R_to (pj_ob G a (fs.set 0 (.int (Int32.ofInt 0))), 22, [(0, .ref a), (1, .int p), (2, .int q), (3, .int n), (4, .int k)], [.long (Int64.ofInt 48), .long (Int64.ofNat 1), .long k.toInt64], 0, 0) 22 5 (fun _ => rfl) ?_
  refine pj_R_ca (pj_cx_mon _) (vs := [.long k.toInt64, .long (Int64.ofNat 1), .long (Int64.ofInt 48)]) (S2 := [.int (Int32.ofInt 1)]) rfl (fun _ => rfl) ⟨Nat.le_of_ble_eq_true rfl, Nat.le_of_ble_eq_true rfl, rfl⟩ ⟨rfl, rfl, rfl⟩ (pj_E_up (by decide) (pj_inE _ _ _ _ (by rw [Int32.toInt_toInt64, z1]; omega) (by rw [Int32.toInt_toInt64, z48]; omega))) ?_
  show pj_R _ _ _ _ (pj_ob G a (fs.set 0 (.int (Int32.ofInt 0))), 25, [(0, .ref a), (1, .int p), (2, .int q), (3, .int n), (4, .int k)], [.int (Int32.ofInt 1)], 0, 0) _
  refine pj_R_ifT 30 rfl rfl (by decide) ?_
  refine pj_R_to (pj_ob G a (fs.set 0 (.int (Int32.ofInt 0))), 36, [(0, .ref a), (1, .int p), (2, .int q), (3, .int n), (4, .int k)], [.int k, .int n, .int q, .int p, .ref a], 0, 0) 36 6 (fun _ => rfl) ?_
  refine pj_R_ca (pj_cx_mon _) (vs := [.ref a, .int p, .int q, .int n, .int k]) (S2 := []) rfl (fun _ => rfl) ⟨Nat.le_of_ble_eq_true rfl, Nat.le_of_ble_eq_true rfl, pj_rcvI hgt⟩ ⟨rfl, rfl, rfl⟩ e1 ?_
  show pj_R _ _ _ _ (pj_ob G a w, 39, [(0, .ref a), (1, .int p), (2, .int q), (3, .int n), (4, .int k)], [], 0, 0) _
  refine pj_R_to (pj_ob G a w, 41, [(0, .ref a), (1, .int p), (2, .int q), (3, .int n), (4, .int k)], [.int (Int32.ofInt 0), .ref a], 0, 0) 41 3 (fun _ => rfl) ?_
  refine pj_R_po hc rfl rfl (by show 1 < w.length; rw [hlw]; decide) rfl ?_
  show pj_R _ _ _ _ (pj_ob G a (w.set 1 (.int (Int32.ofInt 0))), 44, [(0, .ref a), (1, .int p), (2, .int q), (3, .int n), (4, .int k)], [], 0, 0) _
  refine pj_R_to (pj_ob G a (w.set 1 (.int (Int32.ofInt 0))), 46, [(0, .ref a), (1, .int p), (2, .int q), (3, .int n), (4, .int k)], [.ref a, .ref a], 0, 0) 46 3 (fun _ => rfl) ?_
  refine pj_R_go hc rfl rfl (by show (w.set 1 _)[_]? = _; rw [List.getElem?_set_ne (by decide)]; exact w54) ?_
  refine pj_R_to (pj_ob G a (w.set 1 (.int (Int32.ofInt 0))), 50, [(0, .ref a), (1, .int p), (2, .int q), (3, .int n), (4, .int k)], [.long ((pj_hwf p n k (Int32.ofInt 1)).toInt64), .ref a], 0, 0) 50 2 (fun _ => rfl) ?_
  refine pj_R_ca (pj_cx_mon _) (vs := [.ref a, .long ((pj_hwf p n k (Int32.ofInt 1)).toInt64)]) (S2 := []) rfl (fun _ => rfl) ⟨Nat.le_of_ble_eq_true rfl, Nat.le_of_ble_eq_true rfl, pj_rcvI (pj_gp hc)⟩ ⟨rfl, rfl, rfl⟩ (pj_E_up (by decide) e2) ?_
  show pj_R _ _ _ _ (pj_ob G2 a (w.set 1 (.int (Int32.ofInt 0 + Int32.ofInt 1))), 53, [(0, .ref a), (1, .int p), (2, .int q), (3, .int n), (4, .int k)], [], 0, 0) _
  refine pj_R_to (pj_ob G2 a (w.set 1 (.int (Int32.ofInt 0 + Int32.ofInt 1))), 55, [(0, .ref a), (1, .int p), (2, .int q), (3, .int n), (4, .int k)], [.ref a, .ref a], 0, 0) 55 3 (fun _ => rfl) ?_
  refine pj_R_go hc2 rfl rfl (by show (w.set 1 _)[_]? = _; rw [List.getElem?_set_ne (by decide)]; exact w55) ?_
  refine pj_R_to (pj_ob G2 a (w.set 1 (.int (Int32.ofInt 0 + Int32.ofInt 1))), 59, [(0, .ref a), (1, .int p), (2, .int q), (3, .int n), (4, .int k)], [.long ((pj_hwf q n k (Int32.ofInt 0)).toInt64), .ref a], 0, 0) 59 2 (fun _ => rfl) ?_
  refine pj_R_ca (pj_cx_mon _) (vs := [.ref a, .long ((pj_hwf q n k (Int32.ofInt 0)).toInt64)]) (S2 := []) rfl (fun _ => rfl) ⟨Nat.le_of_ble_eq_true rfl, Nat.le_of_ble_eq_true rfl, pj_rcvI (pj_gp hc2)⟩ ⟨rfl, rfl, rfl⟩ (pj_E_up (by decide) e3) ?_
  show pj_R _ _ _ _ (pj_ob G3 a (w.set 1 (.int (Int32.ofInt 0 + Int32.ofInt 1 + Int32.ofInt 1))), 62, [(0, .ref a), (1, .int p), (2, .int q), (3, .int n), (4, .int k)], [], 0, 0) _
  refine pj_R_to (pj_ob G3 a (w.set 1 (.int (Int32.ofInt 0 + Int32.ofInt 1 + Int32.ofInt 1))), 63, [(0, .ref a), (1, .int p), (2, .int q), (3, .int n), (4, .int k)], [.ref a], 0, 0) 63 2 (fun _ => rfl) ?_
  refine pj_R_go hc3 rfl rfl (by show (w.set 1 _)[_]? = _; rw [List.getElem?_set_ne (by decide)]; exact w52) ?_
  refine pj_R_to (pj_ob G3 a (w.set 1 (.int (Int32.ofInt 0 + Int32.ofInt 1 + Int32.ofInt 1))), 67, [(0, .ref a), (1, .int p), (2, .int q), (3, .int n), (4, .int k)], [.ref a, .int (pj_hwf p n k (Int32.ofInt 0))], 0, 0) 67 2 (fun _ => rfl) ?_
  refine pj_R_go hc3 rfl rfl (by show (w.set 1 _)[_]? = _; rw [List.getElem?_set_ne (by decide)]; exact w53) ?_
  refine pj_R_to (pj_ob G3 a (w.set 1 (.int (Int32.ofInt 0 + Int32.ofInt 1 + Int32.ofInt 1))), 71, [(0, .ref a), (1, .int p), (2, .int q), (3, .int n), (4, .int k)], [.int ((pj_hwf p n k (Int32.ofInt 0)) + (pj_hwf q n k (Int32.ofInt 1)))], 0, 0) 71 2 (fun _ => rfl) ?_
  exact pj_R_rt rfl rfl
def pj_tm (b m k s : Int32) : Int32 × Int32 := match decide (m < s) with
  | true => (k, s)
  | false => (b, m)
def pj_tmf (one other n : Int32) : Nat → Int32 → Int32 → Int32 → Int32 × Int32
  | 0, k, b, m => pj_tm b m k (pj_sm one other n k)
  | d + 1, k, b, m => pj_tmf one other n d (k + Int32.ofInt 1) (pj_tm b m k (pj_sm one other n k)).1 (pj_tm b m k (pj_sm one other n k)).2
/-- one turn of the loop, from its head to its head -/
theorem pj_turnM_itw {G : pj_G} {a : Nat} {c0 : pj_C} {fs : List Value} (hc : pj_get G a = some c0) (hl : fs.length = 60) (p q n k b m : Int32) (h3 : 1 ≤ n.toInt ∧ n.toInt ≤ 48) (hk : 1 ≤ k.toInt ∧ k.toInt ≤ 24) {r : Option Value × pj_G × Nat × Nat} (h2 : pj_R (pj_cx 2) 0 pj_x0 pj_m273 (pj_ob G a (pj_w4 fs (pj_hwf p n k (Int32.ofInt 0)) (pj_hwf q n k (Int32.ofInt 1)) (pj_hwf p n k (Int32.ofInt 1)) (pj_hwf q n k (Int32.ofInt 0))), 26, [(6, .int (k + Int32.ofInt 1)), (5, .int (pj_tm b m k (pj_sm p q n k)).2), (4, .int (pj_tm b m k (pj_sm p q n k)).1), (0, .ref a), (1, .int p), (2, .int q), (3, .int n)], [], 0, 0) r) : pj_R (pj_cx 2) 0 pj_x0 pj_m273 (pj_ob G a fs, 26, [(6, .int k), (5, .int m), (4, .int b), (0, .ref a), (1, .int p), (2, .int q), (3, .int n)], [], 0, 0) r := by
  have e1 := pj_sharesE hc hl p q n k h3 (by omega)
  have h3 := h2
  obtain ⟨w, hw⟩ : ∃ w, w = pj_w4 fs (pj_hwf p n k (Int32.ofInt 0)) (pj_hwf q n k (Int32.ofInt 1)) (pj_hwf p n k (Int32.ofInt 1)) (pj_hwf q n k (Int32.ofInt 0)) := ⟨_, rfl⟩
  rw [← hw] at e1 h3
  have w52 : w[52]? = some (.int (pj_hwf p n k (Int32.ofInt 0))) := by rw [hw]; exact pj_w4_52 hl _ _ _ _
  have w53 : w[53]? = some (.int (pj_hwf q n k (Int32.ofInt 1))) := by rw [hw]; exact pj_w4_53 hl _ _ _ _
  clear hw h2
  unfold pj_tm at h3
  cases hm : decide (m < pj_sm p q n k) with
  | true =>
    have hm2 := of_decide_eq_true hm
    rw [hm] at h3
    refine pj_R_to (pj_ob G a fs, 30, [(6, .int k), (5, .int m), (4, .int b), (0, .ref a), (1, .int p), (2, .int q), (3, .int n)], [.int ((Int8.ofInt 24).toInt32), .int k], 0, 0) 30 3 (fun _ => rfl) ?_
    refine pj_R_icF rfl (by simp only [pj_c1, decide_eq_false_iff_not, Int32.lt_iff_toInt_lt, pj_l24]; omega) ?_
    refine pj_R_to (pj_ob G a fs, 39, [(6, .int k), (5, .int m), (4, .int b), (0, .ref a), (1, .int p), (2, .int q), (3, .int n)], [.int k, .int n, .int q, .int p, .ref a], 0, 0) 39 6 (fun _ => rfl) ?_
    refine pj_R_ca (pj_cx_mon _) (vs := [.ref a, .int p, .int q, .int n, .int k]) (S2 := []) rfl (fun _ => rfl) ⟨Nat.le_of_ble_eq_true rfl, Nat.le_of_ble_eq_true rfl, pj_rcvI (pj_gp hc)⟩ ⟨rfl, rfl, rfl⟩ e1 ?_
    show pj_R _ _ _ _ (pj_ob G a w, 42, [(6, .int k), (5, .int m), (4, .int b), (0, .ref a), (1, .int p), (2, .int q), (3, .int n)], [], 0, 0) _
    refine pj_R_to (pj_ob G a w, 43, [(6, .int k), (5, .int m), (4, .int b), (0, .ref a), (1, .int p), (2, .int q), (3, .int n)], [.ref a], 0, 0) 43 2 (fun _ => rfl) ?_
    refine pj_R_go hc rfl rfl w52 ?_
    refine pj_R_to (pj_ob G a w, 47, [(6, .int k), (5, .int m), (4, .int b), (0, .ref a), (1, .int p), (2, .int q), (3, .int n)], [.ref a, .int (pj_hwf p n k (Int32.ofInt 0))], 0, 0) 47 2 (fun _ => rfl) ?_
    refine pj_R_go hc rfl rfl w53 ?_
    refine pj_R_to (pj_ob G a w, 53, [(6, .int k), (5, .int m), (4, .int b), (0, .ref a), (1, .int p), (2, .int q), (3, .int n)], [.int m, .int ((pj_hwf p n k (Int32.ofInt 0)) + (pj_hwf q n k (Int32.ofInt 1)))], 0, 0) 53 3 (fun _ => rfl) ?_
    refine pj_R_icF rfl (by simp only [pj_c1, decide_eq_false_iff_not, Int32.le_iff_toInt_le]; rw [Int32.lt_iff_toInt_lt] at hm2; unfold pj_sm at hm2; omega) ?_
    refine pj_R_to (pj_ob G a w, 68, [(4, .int k), (6, .int k), (5, .int m), (0, .ref a), (1, .int p), (2, .int q), (3, .int n)], [.ref a, .int m], 0, 0) 68 6 (fun _ => rfl) ?_
    refine pj_R_go hc rfl rfl w52 ?_
    refine pj_R_to (pj_ob G a w, 72, [(4, .int k), (6, .int k), (5, .int m), (0, .ref a), (1, .int p), (2, .int q), (3, .int n)], [.ref a, .int (pj_hwf p n k (Int32.ofInt 0)), .int m], 0, 0) 72 2 (fun _ => rfl) ?_
    refine pj_R_go hc rfl rfl w53 ?_
    refine pj_R_to (pj_ob G a w, 76, [(4, .int k), (6, .int k), (5, .int m), (0, .ref a), (1, .int p), (2, .int q), (3, .int n)], [.int ((pj_hwf p n k (Int32.ofInt 0)) + (pj_hwf q n k (Int32.ofInt 1))), .int m], 0, 0) 76 2 (fun _ => rfl) ?_
    refine pj_R_mx rfl rfl (if_pos hm2) (Nat.le_of_ble_eq_true rfl) ?_
    refine pj_R_to (pj_ob G a w, 26, [(6, .int (k + Int32.ofInt 1)), (5, .int (pj_sm p q n k)), (4, .int k), (0, .ref a), (1, .int p), (2, .int q), (3, .int n)], [], 0, 0) 26 4 (fun _ => rfl) ?_
    exact h3
  | false =>
    have hm2 := of_decide_eq_false hm
    rw [hm] at h3
    refine pj_R_to (pj_ob G a fs, 30, [(6, .int k), (5, .int m), (4, .int b), (0, .ref a), (1, .int p), (2, .int q), (3, .int n)], [.int ((Int8.ofInt 24).toInt32), .int k], 0, 0) 30 3 (fun _ => rfl) ?_
    refine pj_R_icF rfl (by simp only [pj_c1, decide_eq_false_iff_not, Int32.lt_iff_toInt_lt, pj_l24]; omega) ?_
    refine pj_R_to (pj_ob G a fs, 39, [(6, .int k), (5, .int m), (4, .int b), (0, .ref a), (1, .int p), (2, .int q), (3, .int n)], [.int k, .int n, .int q, .int p, .ref a], 0, 0) 39 6 (fun _ => rfl) ?_
    refine pj_R_ca (pj_cx_mon _) (vs := [.ref a, .int p, .int q, .int n, .int k]) (S2 := []) rfl (fun _ => rfl) ⟨Nat.le_of_ble_eq_true rfl, Nat.le_of_ble_eq_true rfl, pj_rcvI (pj_gp hc)⟩ ⟨rfl, rfl, rfl⟩ e1 ?_
    show pj_R _ _ _ _ (pj_ob G a w, 42, [(6, .int k), (5, .int m), (4, .int b), (0, .ref a), (1, .int p), (2, .int q), (3, .int n)], [], 0, 0) _
    refine pj_R_to (pj_ob G a w, 43, [(6, .int k), (5, .int m), (4, .int b), (0, .ref a), (1, .int p), (2, .int q), (3, .int n)], [.ref a], 0, 0) 43 2 (fun _ => rfl) ?_
    refine pj_R_go hc rfl rfl w52 ?_
    refine pj_R_to (pj_ob G a w, 47, [(6, .int k), (5, .int m), (4, .int b), (0, .ref a), (1, .int p), (2, .int q), (3, .int n)], [.ref a, .int (pj_hwf p n k (Int32.ofInt 0))], 0, 0) 47 2 (fun _ => rfl) ?_
    refine pj_R_go hc rfl rfl w53 ?_
    refine pj_R_to (pj_ob G a w, 53, [(6, .int k), (5, .int m), (4, .int b), (0, .ref a), (1, .int p), (2, .int q), (3, .int n)], [.int m, .int ((pj_hwf p n k (Int32.ofInt 0)) + (pj_hwf q n k (Int32.ofInt 1)))], 0, 0) 53 3 (fun _ => rfl) ?_
    refine pj_R_icT 61 rfl rfl (by simp only [pj_c1, decide_eq_true_eq, Int32.le_iff_toInt_le]; rw [Int32.lt_iff_toInt_lt] at hm2; unfold pj_sm at hm2; omega) ?_
    refine pj_R_to (pj_ob G a w, 68, [(4, .int b), (6, .int k), (5, .int m), (0, .ref a), (1, .int p), (2, .int q), (3, .int n)], [.ref a, .int m], 0, 0) 68 5 (fun _ => rfl) ?_
    refine pj_R_go hc rfl rfl w52 ?_
    refine pj_R_to (pj_ob G a w, 72, [(4, .int b), (6, .int k), (5, .int m), (0, .ref a), (1, .int p), (2, .int q), (3, .int n)], [.ref a, .int (pj_hwf p n k (Int32.ofInt 0)), .int m], 0, 0) 72 2 (fun _ => rfl) ?_
    refine pj_R_go hc rfl rfl w53 ?_
    refine pj_R_to (pj_ob G a w, 76, [(4, .int b), (6, .int k), (5, .int m), (0, .ref a), (1, .int p), (2, .int q), (3, .int n)], [.int ((pj_hwf p n k (Int32.ofInt 0)) + (pj_hwf q n k (Int32.ofInt 1))), .int m], 0, 0) 76 2 (fun _ => rfl) ?_
    refine pj_R_mx rfl rfl (if_neg hm2) (Nat.le_of_ble_eq_true rfl) ?_
    refine pj_R_to (pj_ob G a w, 26, [(6, .int (k + Int32.ofInt 1)), (5, .int m), (4, .int b), (0, .ref a), (1, .int p), (2, .int q), (3, .int n)], [], 0, 0) 26 4 (fun _ => rfl) ?_
    exact h3
theorem pj_turnM_end {G : pj_G} {a rw_ : Nat} {c0 : pj_C} {fs : List Value} {f : Nat → Int64} (hc : pj_get G a = some c0) (hl : fs.length = 60) (hne : rw_ ≠ a) (hr : pj_get G rw_ = some (.inl (1, 24, .inr (.inl f)))) (hfr : fs[2]? = some (.ref rw_)) (p q n k b m : Int32) (hk : pj_c1 .gt k (Int8.ofInt 24).toInt32 = true) : ∃ G', pj_R (pj_cx 2) 0 pj_x0 pj_m273 (pj_ob G a fs, 26, [(6, .int k), (5, .int m), (4, .int b), (0, .ref a), (1, .int p), (2, .int q), (3, .int n)], [], 0, 0) (some (.int b), G', 0, 0) := by
  have l1 : (fs.set 1 (.int (Int32.ofInt 0))).length = 60 := by rw [List.length_set, hl]
  obtain ⟨G2, f2, e2, hc2, hr2⟩ := pj_entersE hc l1 hne hr (by rw [List.getElem?_set_ne (by decide), hfr]) (Int32.ofInt 0) (by rw [List.getElem?_set_self (by rw [hl]; decide)]) (by decide) m.toInt64
  refine ⟨pj_ob G2 a ((fs.set 1 (.int (Int32.ofInt 0))).set 1 (.int (Int32.ofInt 0 + Int32.ofInt 1))), ?_⟩
  refine pj_R_to (pj_ob G a fs, 30, [(6, .int k), (5, .int m), (4, .int b), (0, .ref a), (1, .int p), (2, .int q), (3, .int n)], [.int ((Int8.ofInt 24).toInt32), .int k], 0, 0) 30 3 (fun _ => rfl) ?_
  refine pj_R_icT 87 rfl rfl hk ?_
  refine pj_R_to (pj_ob G a fs, 89, [(6, .int k), (5, .int m), (4, .int b), (0, .ref a), (1, .int p), (2, .int q), (3, .int n)], [.int (Int32.ofInt 0), .ref a], 0, 0) 89 3 (fun _ => rfl) ?_
  refine pj_R_po hc rfl rfl (by show 1 < fs.length; rw [hl]; decide) rfl ?_
  show pj_R _ _ _ _ (pj_ob G a (fs.set 1 (.int (Int32.ofInt 0))), 92, [(6, .int k), (5, .int m), (4, .int b), (0, .ref a), (1, .int p), (2, .int q), (3, .int n)], [], 0, 0) _
  refine pj_R_to (pj_ob G a (fs.set 1 (.int (Int32.ofInt 0))), 96, [(6, .int k), (5, .int m), (4, .int b), (0, .ref a), (1, .int p), (2, .int q), (3, .int n)], [.long m.toInt64, .ref a], 0, 0) 96 4 (fun _ => rfl) ?_
  refine pj_R_ca (pj_cx_mon _) (vs := [.ref a, .long m.toInt64]) (S2 := []) rfl (fun _ => rfl) ⟨Nat.le_of_ble_eq_true rfl, Nat.le_of_ble_eq_true rfl, pj_rcvI (pj_gp hc)⟩ ⟨rfl, rfl, rfl⟩ (pj_E_up (by decide) e2) ?_
  show pj_R _ _ _ _ (pj_ob G2 a ((fs.set 1 (.int (Int32.ofInt 0))).set 1 (.int (Int32.ofInt 0 + Int32.ofInt 1))), 99, [(6, .int k), (5, .int m), (4, .int b), (0, .ref a), (1, .int p), (2, .int q), (3, .int n)], [], 0, 0) _
  refine pj_R_to (pj_ob G2 a ((fs.set 1 (.int (Int32.ofInt 0))).set 1 (.int (Int32.ofInt 0 + Int32.ofInt 1))), 101, [(6, .int k), (5, .int m), (4, .int b), (0, .ref a), (1, .int p), (2, .int q), (3, .int n)], [.int b], 0, 0) 101 2 (fun _ => rfl) ?_
  exact pj_R_rt rfl rfl
theorem pj_turnM_loop {G : pj_G} {a rw_ : Nat} {c0 : pj_C} {f : Nat → Int64} (hc : pj_get G a = some c0) (hne : rw_ ≠ a) (hr : pj_get G rw_ = some (.inl (1, 24, .inr (.inl f)))) (p q n : Int32) (h3 : 1 ≤ n.toInt ∧ n.toInt ≤ 48) : ∀ (d : Nat) (k b m : Int32) (fs : List Value), 24 - k.toInt = d → 1 ≤ k.toInt → fs.length = 60 → fs[2]? = some (.ref rw_) → ∃ G', pj_R (pj_cx 2) 0 pj_x0 pj_m273 (pj_ob G a fs, 26, [(6, .int k), (5, .int m), (4, .int b), (0, .ref a), (1, .int p), (2, .int q), (3, .int n)], [], 0, 0) (some (.int (pj_tmf p q n d k b m).1), G', 0, 0) := by
  intro d
  induction d with
  | zero =>
    intro k b m fs hd hk hl hfr
    have hk24 : k.toInt ≤ 24 := by omega
    have hgt : pj_c1 .gt (k + Int32.ofInt 1) (Int8.ofInt 24).toInt32 = true := by
      simp only [pj_c1, decide_eq_true_eq, Int32.lt_iff_toInt_lt, pj_l24, pj_inc24 hk24]
      omega
    obtain ⟨G', hG⟩ := pj_turnM_end hc (fs := pj_w4 fs (pj_hwf p n k (Int32.ofInt 0)) (pj_hwf q n k (Int32.ofInt 1)) (pj_hwf p n k (Int32.ofInt 1)) (pj_hwf q n k (Int32.ofInt 0))) (by rw [pj_w4_len, hl]) hne hr (by rw [pj_w4_lo _ _ _ _ _ (by decide), hfr]) p q n (k + Int32.ofInt 1) (pj_tm b m k (pj_sm p q n k)).1 (pj_tm b m k (pj_sm p q n k)).2 hgt
    refine ⟨G', ?_⟩
    exact pj_turnM_itw hc hl p q n k b m h3 ⟨hk, hk24⟩ hG
  | succ d ih =>
    intro k b m fs hd hk hl hfr
    have hk24 : k.toInt ≤ 24 := by omega
    have hk2 : 24 - (k + Int32.ofInt 1).toInt = d := by
      rw [pj_inc24 hk24]
      omega
    have hk1 : 1 ≤ (k + Int32.ofInt 1).toInt := by
      rw [pj_inc24 hk24]
      omega
    obtain ⟨G', hG⟩ := ih (k + Int32.ofInt 1) (pj_tm b m k (pj_sm p q n k)).1 (pj_tm b m k (pj_sm p q n k)).2 (pj_w4 fs (pj_hwf p n k (Int32.ofInt 0)) (pj_hwf q n k (Int32.ofInt 1)) (pj_hwf p n k (Int32.ofInt 1)) (pj_hwf q n k (Int32.ofInt 0))) hk2 hk1 (by rw [pj_w4_len, hl]) (by rw [pj_w4_lo _ _ _ _ _ (by decide), hfr])
    refine ⟨G', ?_⟩
    exact pj_turnM_itw hc hl p q n k b m h3 ⟨hk, hk24⟩ hG
theorem pj_turnM {G : pj_G} {a rw_ : Nat} {fs : List Value} {f : Nat → Int64} (hm : pj_get G a = some (.inr (12, fs))) (hl : fs.length = 60) (hr : pj_get G rw_ = some (.inl (1, 24, .inr (.inl f)))) (hfr : fs[2]? = some (.ref rw_)) (p q n : Int32) (h1 : 0 ≤ p.toInt ∧ p.toInt ≤ 16777215) (h2 : 0 ≤ q.toInt ∧ q.toInt ≤ 16777215) (h3 : 1 ≤ n.toInt ∧ n.toInt ≤ 48) : ∃ G', pj_E (pj_cx 3) 273 [.ref a, .int p, .int q, .int n] G (some (.int (pj_tmf p q n 23 (Int32.ofInt 1) (Int32.ofInt (-1)) (Int32.ofInt (-1))).1), G', 0, 0) := by
  have hne : rw_ ≠ a := fun e => by
    rw [e, hm] at hr
    cases hr
  have hc := hm
  have hgt : pj_get (pj_ob G a (fs.set 0 (.int (Int32.ofInt 0)))) a = some (.inr (12, fs.set 0 (.int (Int32.ofInt 0)))) := pj_gp hm
  obtain ⟨G', hG⟩ := pj_turnM_loop hc hne hr p q n h3 23 (Int32.ofInt 1) (Int32.ofInt (-1)) (Int32.ofInt (-1)) (fs.set 0 (.int (Int32.ofInt 0))) (by rw [pj_li1]; rfl) (by rw [pj_li1]; decide) (by rw [List.length_set, hl]) (by rw [List.getElem?_set_ne (by decide), hfr])
  refine ⟨G', ?_⟩
  refine pj_E_R (M := pj_m273) rfl rfl (Nat.le_of_ble_eq_true rfl) ?_
  show pj_R _ _ _ _ (G, 0, [(0, .ref a), (1, .int p), (2, .int q), (3, .int n)], [], 0, 0) _
  refine pj_R_to (G, 2, [(0, .ref a), (1, .int p), (2, .int q), (3, .int n)], [.int (Int32.ofInt 0), .ref a], 0, 0) 2 3 (fun _ => rfl) ?_
  refine pj_R_pf rfl hm (by show 0 < fs.length; rw [hl]; decide) rfl ?_
  show pj_R _ _ _ _ (pj_ob G a (fs.set 0 (.int (Int32.ofInt 0))), 5, [(0, .ref a), (1, .int p), (2, .int q), (3, .int n)], [], 0, 0) _
  refine pj_R_to (pj_ob G a (fs.set 0 (.int (Int32.ofInt 0))), 9, [(0, .ref a), (1, .int p), (2, .int q), (3, .int n)], [.int n, .int q, .int p, .ref a], 0, 0) 9 5 (fun _ => rfl) ?_
  refine pj_R_ca (pj_cx_mon _) (vs := [.ref a, .int p, .int q, .int n]) (S2 := [.int (Int32.ofInt 1)]) rfl (fun _ => rfl) ⟨Nat.le_of_ble_eq_true rfl, Nat.le_of_ble_eq_true rfl, pj_rcvI hgt⟩ ⟨rfl, rfl, rfl⟩ (pj_canE _ a p q n h1 h2 h3) ?_
  show pj_R _ _ _ _ (pj_ob G a (fs.set 0 (.int (Int32.ofInt 0))), 12, [(0, .ref a), (1, .int p), (2, .int q), (3, .int n)], [.int (Int32.ofInt 1)], 0, 0) _
  refine pj_R_ifT 17 rfl rfl (by decide) ?_
  refine pj_R_to (pj_ob G a (fs.set 0 (.int (Int32.ofInt 0))), 26, [(6, .int (Int32.ofInt 1)), (5, .int (Int32.ofInt (-1))), (4, .int (Int32.ofInt (-1))), (0, .ref a), (1, .int p), (2, .int q), (3, .int n)], [], 0, 0) 26 7 (fun _ => rfl) ?_
  exact hG
/-! BOTH TURN ALIKE -/
theorem pj_tc_tm {b : Int32} (hb : ¬ b = Int32.ofInt (-1)) (m k s : Int32) : pj_tc b m k s = pj_tm b m k s := by
  unfold pj_tc pj_tm
  rw [decide_eq_false hb]
  cases decide (m < s) <;> rfl
theorem pj_lm1 : (Int32.ofInt (-1)).toInt = -1 := by decide
theorem pj_pos_m1 {k : Int32} (h : 1 ≤ k.toInt) : ¬ k = Int32.ofInt (-1) := fun e => by
  rw [e, pj_lm1] at h
  omega
theorem pj_tcf_tmf (one other n : Int32) : ∀ (d : Nat) (k b m : Int32), 24 - k.toInt = d → 1 ≤ k.toInt → ¬ b = Int32.ofInt (-1) → pj_tcf one other n d k b m = pj_tmf one other n d k b m
  | 0, k, b, m, _, _, hb => pj_tc_tm hb m k _
  | d + 1, k, b, m, hd, hk, hb => by
    have hk24 : k.toInt ≤ 24 := by omega
    show pj_tcf one other n d (k + Int32.ofInt 1) (pj_tc b m k (pj_sm one other n k)).1 (pj_tc b m k (pj_sm one other n k)).2 = pj_tmf one other n d (k + Int32.ofInt 1) (pj_tm b m k (pj_sm one other n k)).1 (pj_tm b m k (pj_sm one other n k)).2
    rw [pj_tc_tm hb]
    refine pj_tcf_tmf one other n d _ _ _ (by rw [pj_inc24 hk24]; omega) (by rw [pj_inc24 hk24]; omega) ?_
    unfold pj_tm
    cases decide (m < pj_sm one other n k) with
    | true => exact pj_pos_m1 hk
    | false => exact hb
theorem pj_turn_eq (one other n : Int32) (h3 : 1 ≤ n.toInt ∧ n.toInt ≤ 48) : pj_tcf one other n 23 (Int32.ofInt 1) (Int32.ofInt (-1)) (Int32.ofInt 0) = pj_tmf one other n 23 (Int32.ofInt 1) (Int32.ofInt (-1)) (Int32.ofInt (-1)) := by
  have hs := pj_sm_bd one other n (Int32.ofInt 1) h3
  have e1 : pj_tc (Int32.ofInt (-1)) (Int32.ofInt 0) (Int32.ofInt 1) (pj_sm one other n (Int32.ofInt 1)) = (Int32.ofInt 1, pj_sm one other n (Int32.ofInt 1)) := by
    unfold pj_tc
    cases decide (Int32.ofInt 0 < pj_sm one other n (Int32.ofInt 1)) <;> rfl
  have e2 : pj_tm (Int32.ofInt (-1)) (Int32.ofInt (-1)) (Int32.ofInt 1) (pj_sm one other n (Int32.ofInt 1)) = (Int32.ofInt 1, pj_sm one other n (Int32.ofInt 1)) := by
    unfold pj_tm
    rw [decide_eq_true (show Int32.ofInt (-1) < pj_sm one other n (Int32.ofInt 1) by rw [Int32.lt_iff_toInt_lt, pj_lm1]; omega)]
  show pj_tcf one other n 22 (Int32.ofInt 1 + Int32.ofInt 1) (pj_tc (Int32.ofInt (-1)) (Int32.ofInt 0) (Int32.ofInt 1) (pj_sm one other n (Int32.ofInt 1))).1 (pj_tc (Int32.ofInt (-1)) (Int32.ofInt 0) (Int32.ofInt 1) (pj_sm one other n (Int32.ofInt 1))).2 = pj_tmf one other n 22 (Int32.ofInt 1 + Int32.ofInt 1) (pj_tm (Int32.ofInt (-1)) (Int32.ofInt (-1)) (Int32.ofInt 1) (pj_sm one other n (Int32.ofInt 1))).1 (pj_tm (Int32.ofInt (-1)) (Int32.ofInt (-1)) (Int32.ofInt 1) (pj_sm one other n (Int32.ofInt 1))).2
  rw [e1, e2]
  exact pj_tcf_tmf one other n 22 _ _ _ (by decide) (by decide) (show ¬ Int32.ofInt 1 = Int32.ofInt (-1) by decide)
