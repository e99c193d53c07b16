/-! rivers, bridges, people anew: the whole state -/
theorem mr_n27 {l : List (Nat × Nat)} (w : l.all (fun q => !(Nat.beq q.1 27)) = true) (m : Nat) : (27, m) ∉ l := fun hm => by
  have z := List.all_eq_true.mp w _ hm
  cases z
theorem mr_nhi {l : List (Nat × Nat)} (w : l.all (fun q => Nat.ble q.1 56) = true) (a m : Nat) (h : 57 ≤ a) : (a, m) ∉ l := fun hm => by
  have z : a ≤ 56 := Nat.le_of_ble_eq_true (List.all_eq_true.mp w _ hm)
  omega
theorem mr_nha {l : List Nat} (w : l.all (fun a => Nat.ble a 56) = true) (a : Nat) (h : 57 ≤ a) : a ∉ l := fun hm => by
  have z : a ≤ 56 := Nat.le_of_ble_eq_true (List.all_eq_true.mp w _ hm)
  omega
theorem mr_e2 {n : Int} {C R : pj_G} (hn0 : 0 ≤ n) (iC : pj_Inv C) (iR : pj_Inv R) (hT : mr_T C R) (hF : mr_F C R) (hRI : pj_RI R) (hU15 : (pj_fi R 171 30).toInt ≤ 15) (h : mr_E n C R) : mr_E (n + 5) (F_119tx C).2 (F_192tx R).2 := by
  have k0 : (Int32.ofInt 0).toInt = 0 := by decide
  obtain ⟨-, -, c⟩ := mr_river iC iR hT.1 hT.2 hF.2.2.1
  obtain ⟨i1, k, -⟩ := fr_119tx C iC
  obtain ⟨-, k', -⟩ := fr_192tx R iR hRI hU15
  rcases c with ⟨c1, ⟨z1, z2, z3, z4, z5⟩, ⟨w1, w2, w3, w4, w5⟩⟩ | ⟨c1, c2, c3⟩
  · have e7 : pj_fi (F_119tx C).2 21 7 = pj_ai (F_192tx R).2 179 30 := by rw [w5]; exact Int32.toInt_inj.mp (z3.trans k0.symm)
    have n0 : (pj_ai (F_192tx R).2 179 30).toInt = 0 := by rw [w5]; exact k0
    refine ⟨⟨fun b hb => absurd hb (by omega), fun p hp => absurd hp (by omega), e7, ⟨?_, ?_⟩, fun b hb => absurd hb (by omega), fun b d hb => absurd hb (by omega)⟩, ⟨by omega, fun i k hi => absurd hi (by omega)⟩, fun i hi h1 => absurd (by rw [z5 i hi]; exact mr_nz0) h1, mr_Qc h.2.2.2 (fun m => k.2.1.2 (27, m) (mr_n27 rfl m)) (k.2.2 28 (by decide)) (k.2.2 29 (by decide)) (k'.1 (171, 26) (by decide)) (k'.2.2 182 (by decide))⟩
    · show 0 ≤ (pj_ai (F_192tx R).2 179 30).toInt
      omega
    · show (pj_ai (F_192tx R).2 179 30).toInt ≤ _
      omega
  · exact mr_En (mr_ER (mr_EC h iC c2 rfl) i1 c3 rfl)
theorem mr_SSb {B kc : Int} {C R : pj_G} (h : mr_S B kc C R) : mr_Sb C R := fun b hb => by
  have z := h.1 b hb
  rw [Nat.zero_add] at z
  exact z
theorem mr_e3 {n : Int} {C R : pj_G} (hn0 : 0 ≤ n) (iC : pj_Inv C) (iR : pj_Inv R) (hT : mr_T C R) (hF : mr_F C R) (hK : mr_K C R) (hU15 : (pj_fi R 171 30).toInt ≤ 15) (h : mr_E n C R) : mr_E (n + 5) (F_120tx C).2 (F_196tx R).2 := by
  have k0 : (Int32.ofInt 0).toInt = 0 := by decide
  have km : (Int32.ofInt (-1)).toInt = -1 := by decide
  obtain ⟨-, ⟨-, -, b3, b4, b5⟩, c⟩ := mr_bridges iC iR hT.1 hT.2 hF.1.1
  obtain ⟨iK, kK, -⟩ := fr_120tx C iC
  obtain ⟨iE, kE, -⟩ := fr_196tx R iR hU15
  obtain ⟨hS, hU, hKS, hQ⟩ := h
  have c5 : pj_fi (F_120tx C).2 21 5 = pj_fi C 21 5 := kK.1 (21, 5) (by decide)
  have e4 : pj_fi (F_196tx R).2 171 4 = pj_fi R 171 4 := kE.1 (171, 4) (by decide)
  have Sb := b3 (mr_SSb hS)
  have r0 : (0 : Int) ≤ (pj_fi R 171 4).toInt ∧ (pj_fi R 171 4).toInt ≤ 10 := iR.2.1 171 4 (0, 10) rfl
  obtain ⟨⟨n0, n1⟩, o2, o3⟩ := hS.2.2.2
  have a30 : pj_ai (F_196tx R).2 179 30 = pj_ai R 179 30 := b4 30 (by decide)
  have S1 : mr_S (400 * (n + 5)) (pj_fi R 171 4).toInt (F_120tx C).2 (F_196tx R).2 := by
    refine ⟨fun b hb => ?_, fun p hp => ?_, ?_, ⟨?_, ?_⟩, fun b hb => ?_, fun b d hb hd ne e => ?_⟩
    · rw [Nat.zero_add]
      exact Sb b hb
    · rw [c5] at hp
      rw [kK.2.2 26 (by decide), b4 _ (by omega)]
      exact hS.2.1 p hp
    · rw [show pj_fi (F_120tx C).2 21 7 = pj_fi C 21 7 from kK.1 (21, 7) (by decide)]
      exact hS.2.2.1.trans a30.symm
    · show 0 ≤ (pj_ai (F_196tx R).2 179 30).toInt
      rw [a30]
      exact n0
    · show (pj_ai (F_196tx R).2 179 30).toInt ≤ _
      rw [a30]
      have n1' : (pj_ai R 179 30).toInt ≤ 400 * n := n1
      omega
    · rw [Nat.zero_add]
      rcases b5 b hb with ⟨q, e⟩ | ⟨q1, q2⟩
      · have z := o2 b q
        rw [Nat.zero_add] at z
        have e0 := e 0 (by decide)
        rw [Nat.add_zero] at e0
        rw [e0, e 2 (by decide)]
        exact z
      · rw [q1, q2]
        omega
    · rw [Nat.zero_add] at e ⊢
      rw [Nat.zero_add] at e
      rcases b5 b hb with ⟨q, eb⟩ | ⟨q1, q2⟩
      · have f0 := eb 0 (by decide)
        rw [Nat.add_zero] at f0
        rcases b5 d hd with ⟨q', ed⟩ | ⟨q1', q2'⟩
        · have g0 := ed 0 (by decide)
          rw [Nat.add_zero] at g0
          rw [f0, g0] at e
          rw [f0]
          have u := o3 b d q q' ne (by rw [Nat.zero_add, Nat.zero_add]; exact e)
          rw [Nat.zero_add] at u
          exact u
        · rw [e, q1']
          exact km
      · rw [q1]
        exact km
  have cR : ∀ i : Nat, i < 16 → pj_fi (F_120tx C).2 (57 + 6 * i) 7 = pj_fi C (57 + 6 * i) 7 ∧ ∀ x : Nat, 1 ≤ x → x ≤ 5 → ∀ j, pj_ai (F_120tx C).2 (57 + 6 * i + x) j = pj_ai C (57 + 6 * i + x) j := fun i hi => ⟨kK.1 (57 + 6 * i, 7) (mr_nhi rfl _ 7 (by omega)), fun x _ _ j => kK.2.2 (57 + 6 * i + x) (mr_nha rfl _ (by omega)) j⟩
  have Q1 : pr_Q (F_120tx C).2 (F_196tx R).2 := mr_Qc hQ (fun m => kK.2.1.2 (27, m) (mr_n27 rfl m)) (kK.2.2 28 (by decide)) (kK.2.2 29 (by decide)) (kE.1 (171, 26) (by decide)) (kE.2.2 182 (by decide))
  have f56 : ∀ i, pj_ai (F_120tx C).2 56 i = pj_ai C 56 i := kK.2.2 56 (by decide)
  have fs : ∀ i : Nat, i < 3 → ∀ m, pj_fi (F_120tx C).2 (153 + 6 * i) m = pj_fi C (153 + 6 * i) m := fun i hi m => kK.1 (153 + 6 * i, m) (mr_nhi rfl _ m (by omega))
  unfold mr_E
  rw [e4]
  rcases c with ⟨c1, c2, c3, c4, c6⟩ | ⟨c1, c2, c3, c4, c6⟩
  · refine ⟨S1, ⟨by omega, fun i k hi => absurd hi (by omega)⟩, fun i hi h1 h2 h3 => ?_, Q1⟩
    rw [f56] at h1
    rw [fs i hi] at h2
    obtain ⟨-, x2, -⟩ := (hK i hi).1 h1
    omega
  · have c0 : pj_fi (F_120tx C).2 21 0 = pj_fi C 21 0 := Int32.toInt_inj.mp c2
    exact ⟨S1, mr_Uk (mr_UB hU (by omega)) ⟨by rw [kK.1 (53, 1) (by decide)], by rw [c3], c2, by rw [c5], cR⟩ ⟨by rw [c4], kE.2.2 186 (by decide)⟩, mr_KSB (mr_KSg hKS iC c0 c5 f56 fs (fun i hi x hx j => kK.2.2 (153 + 6 * i + x) (mr_nha rfl _ (by omega)) j) (kE.2.2 202 (by decide))) (by omega), Q1⟩
theorem mr_e4 {n : Int} {C R : pj_G} (hn0 : 0 ≤ n) (iC : pj_Inv C) (iR : pj_Inv R) (hT : mr_T C R) (hF : mr_F C R) (hK : mr_K C R) (hU15 : (pj_fi R 171 30).toInt ≤ 15) (h : mr_E n C R) : mr_E (n + 5) (F_121tx C).2 (F_197tx R).2 := by
  obtain ⟨-, ⟨-, -, b3, b4⟩, c⟩ := mr_people2 iC iR hT.1 hT.2 hF.1.2 hF.2.2.1
  obtain ⟨iK, kK, -⟩ := fr_121tx C iC
  obtain ⟨iE, kE, -⟩ := fr_197tx R iR hU15
  obtain ⟨hS, hU, hKS, hQ⟩ := h
  have c0 : pj_fi (F_121tx C).2 21 0 = pj_fi C 21 0 := kK.1 (21, 0) (by decide)
  have e4 : pj_fi (F_197tx R).2 171 4 = pj_fi R 171 4 := kE.1 (171, 4) (by decide)
  have Sp := b3 (fun p hp => by
    have z := hS.2.1 p hp
    rw [Nat.zero_add] at z
    exact z)
  have rb : (0 : Int) ≤ (pj_fi C 21 0).toInt ∧ (pj_fi C 21 0).toInt ≤ 6 := iC.2.1 21 0 (0, 6) rfl
  have S1 : mr_S (400 * (n + 5)) (pj_fi R 171 4).toInt (F_121tx C).2 (F_197tx R).2 := by
    obtain ⟨⟨n0, n1⟩, o2, o3⟩ := hS.2.2.2
    refine ⟨fun b hb => ?_, fun p hp => ?_, ?_, ⟨?_, ?_⟩, fun b hb => ?_, fun b d hb hd ne e => ?_⟩
    · rw [c0] at hb
      rw [kK.2.2 22 (by decide), kK.2.2 23 (by decide), kK.2.2 25 (by decide), kK.2.2 24 (by decide), b4 _ (by omega), b4 _ (by omega), b4 _ (by omega), b4 _ (by omega)]
      exact hS.1 b hb
    · rw [Nat.zero_add]
      exact Sp p hp
    · rw [show pj_fi (F_121tx C).2 21 7 = pj_fi C 21 7 from kK.1 (21, 7) (by decide), b4 _ (by omega)]
      exact hS.2.2.1
    · rw [b4 _ (by omega)]
      exact n0
    · rw [b4 _ (by omega)]
      omega
    · rw [c0] at hb
      rw [b4 _ (by omega), b4 _ (by omega)]
      exact o2 b hb
    · rw [c0] at hb hd
      rw [b4 _ (by omega), b4 _ (by omega)] at e
      rw [b4 _ (by omega)]
      exact o3 b d hb hd ne e
  have cR : ∀ i : Nat, i < 16 → pj_fi (F_121tx C).2 (57 + 6 * i) 7 = pj_fi C (57 + 6 * i) 7 ∧ ∀ x : Nat, 1 ≤ x → x ≤ 5 → ∀ j, pj_ai (F_121tx C).2 (57 + 6 * i + x) j = pj_ai C (57 + 6 * i + x) j := fun i hi => ⟨kK.1 (57 + 6 * i, 7) (mr_nhi rfl _ 7 (by omega)), fun x _ _ j => kK.2.2 (57 + 6 * i + x) (mr_nha rfl _ (by omega)) j⟩
  have Q1 : pr_Q (F_121tx C).2 (F_197tx R).2 := mr_Qc hQ (fun m => kK.2.1.2 (27, m) (mr_n27 rfl m)) (kK.2.2 28 (by decide)) (kK.2.2 29 (by decide)) (kE.1 (171, 26) (by decide)) (kE.2.2 182 (by decide))
  have f56 : ∀ i, pj_ai (F_121tx C).2 56 i = pj_ai C 56 i := kK.2.2 56 (by decide)
  have fs : ∀ i : Nat, i < 3 → ∀ m, pj_fi (F_121tx C).2 (153 + 6 * i) m = pj_fi C (153 + 6 * i) m := fun i hi m => kK.1 (153 + 6 * i, m) (mr_nhi rfl _ m (by omega))
  unfold mr_E
  rw [e4]
  rcases c with ⟨c1, c2, c3, c4, c6⟩ | ⟨c1, c2, c3, c4, c6⟩
  · refine ⟨S1, ⟨by omega, fun i k hi => absurd hi (by omega)⟩, fun i hi h1 h2 h3 => ?_, Q1⟩
    rw [f56] at h1
    rw [fs i hi] at h3
    obtain ⟨-, -, x2, -⟩ := (hK i hi).1 h1
    omega
  · have c5 : pj_fi (F_121tx C).2 21 5 = pj_fi C 21 5 := Int32.toInt_inj.mp c2
    exact ⟨S1, mr_Uk (mr_UB hU (by omega)) ⟨by rw [kK.1 (53, 1) (by decide)], by rw [c3], by rw [c0], c2, cR⟩ ⟨by rw [c4], kE.2.2 186 (by decide)⟩, mr_KSB (mr_KSg hKS iC c0 c5 f56 fs (fun i hi x hx j => kK.2.2 (153 + 6 * i + x) (mr_nha rfl _ (by omega)) j) (kE.2.2 202 (by decide))) (by omega), Q1⟩
theorem mr_n2226 {l : List Nat} (w : l.all (fun a => !(Nat.ble 22 a && Nat.ble a 26)) = true) (a : Nat) (h : 22 ≤ a) (h2 : a ≤ 26) : a ∉ l := fun hm => by
  have z := List.all_eq_true.mp w _ hm
  rw [Nat.ble_eq_true_of_le h, Nat.ble_eq_true_of_le h2] at z
  cases z
/-- THE RULE anew: the state is as it was -/
theorem mr_e5 {n : Int} {C R : pj_G} (iC : pj_Inv C) (iR : pj_Inv R) (hRI : pj_RI R) (hT : mr_T C R) (h : mr_E n C R) : mr_E (n + 5) (F_122tx C).2 (F_201tx R).2 := by
  obtain ⟨-, b⟩ := mr_rule iC iR hT.1 hT.2
  obtain ⟨-, k, -⟩ := fr_122tx C iC
  obtain ⟨-, k', -⟩ := fr_201tx R iR hRI
  obtain ⟨hS, hU, hKS, hQ⟩ := h
  have e4 : pj_fi (F_201tx R).2 171 4 = pj_fi R 171 4 := k'.1 (171, 4) (by decide)
  unfold mr_E
  rw [e4]
  refine ⟨mr_rowB (mr_Sf hS iC (k.1 (21, 0) (by decide)) (k.1 (21, 5) (by decide)) (k.1 (21, 7) (by decide)) (fun a j ha hb => k.2.2 a (mr_n2226 rfl a ha hb) j) (fun j _ => k'.2.2 179 (by decide) j)) (by omega), mr_UB (mr_Uk hU (mr_cUk k rfl) (mr_rUk k' rfl)) (by omega), mr_KSB (mr_KSg hKS iC (k.1 (21, 0) (by decide)) (k.1 (21, 5) (by decide)) (k.2.2 56 (by decide)) (fun i hi m => k.1 (153 + 6 * i, m) (mr_nhi rfl _ m (by omega))) (fun i hi x hx j => k.2.2 (153 + 6 * i + x) (mr_nha rfl _ (by omega)) j) (k'.2.2 202 (by decide))) (by omega), b hQ⟩
theorem mr_e9 {n : Int} {C R : pj_G} (iC : pj_Inv C) (iR : pj_Inv R) (hF : mr_F C R) (h : mr_E n C R) (k1 n1 f1 s1 : Int32) : mr_E (n + 5) (F_126x C k1 n1 f1 s1).2 (F_214x R k1 n1 f1 s1).2 := by
  obtain ⟨-, a2⟩ := mr_sheetS (mr_FA iC iR hF) h.1 k1 n1 f1 s1
  obtain ⟨-, k⟩ := fr_126x C iC k1 n1 f1 s1
  obtain ⟨-, k'⟩ := fr_214x R iR k1 n1 f1 s1
  exact mr_eD h iC k k' rfl rfl a2 (mr_Uk h.2.1 (mr_cUk k rfl) (mr_rUk k' rfl)) (by omega)
theorem mr_e40 {n : Int} {C R : pj_G} (iC : pj_Inv C) (iR : pj_Inv R) (h : mr_E n C R) (i : Int32) : mr_E (n + 5) (F_157nx C i).2 (F_282x R i).2 := by
  obtain ⟨hS, hU, hKS, hQ⟩ := h
  obtain ⟨a, b⟩ := mr_keepS iC iR hS hKS i
  obtain ⟨-, k, -⟩ := fr_157nx C iC i
  obtain ⟨-, k', -⟩ := fr_282x R iR i
  have e4 : pj_fi (F_282x R i).2 171 4 = pj_fi R 171 4 := k'.1 (171, 4) (by decide)
  unfold mr_E
  rw [e4]
  exact ⟨mr_rowB a (by omega), mr_UB (mr_Uk hU (mr_cUk k rfl) (mr_rUk k' rfl)) (by omega), mr_KSB b (by omega), mr_Qc hQ (fun m => k.2.1.2 (27, m) (mr_n27 rfl m)) (k.2.2 28 (by decide)) (k.2.2 29 (by decide)) (k'.1 (171, 26) (by decide)) (k'.2.2 182 (by decide))⟩
theorem mr_e41 {n : Int} {C R : pj_G} (iC : pj_Inv C) (iR : pj_Inv R) (hU15 : (pj_fi R 171 30).toInt ≤ 15) (hK : mr_K C R) (h : mr_E n C R) (i : Int32) : mr_E (n + 5) (F_158nx C i).2 (F_283x R i).2 := by
  obtain ⟨hS, hU, hKS, hQ⟩ := h
  obtain ⟨-, a, b, c⟩ := mr_againS iC iR hK hS hU hKS i
  obtain ⟨-, k, -⟩ := fr_158nx C iC i
  obtain ⟨-, k', -⟩ := fr_283x R iR i hU15
  have e4 : pj_fi (F_283x R i).2 171 4 = pj_fi R 171 4 := k'.1 (171, 4) (by decide)
  unfold mr_E
  rw [e4]
  exact ⟨mr_rowB a (by omega), mr_UB b (by omega), mr_KSB c (by omega), mr_Qc hQ (fun m => k.2.1.2 (27, m) (mr_n27 rfl m)) (k.2.2 28 (by decide)) (k.2.2 29 (by decide)) (k'.1 (171, 26) (by decide)) (k'.2.2 182 (by decide))⟩
