/-! WHAT IS THE SAME ON BOTH SIDES: the class in C, the reference in R -/
theorem mr_gi {G G' : pj_G} {a k : Nat} (h : pj_get G' a = pj_get G a) : pj_fi G' a k = pj_fi G a k := by
  unfold pj_fi pj_fv
  rw [h]
theorem mr_ga {G G' : pj_G} {a j : Nat} (h : pj_get G' a = pj_get G a) : pj_ai G' a j = pj_ai G a j := by
  unfold pj_ai
  rw [h]
theorem mr_rbt {G : pj_G} {a k b : Nat} (h : pj_rb G a k b = true) : pj_fv G a k = some (.ref b) := by
  unfold pj_rb at h
  split at h
  · rename_i n e
    rw [e, Nat.eq_of_beq_eq_true h]
  · cases h
def mr_T (C R : pj_G) : Prop := (pj_fi C 2 1).toInt = (pj_fi R 171 16).toInt ∧ ∀ j : Nat, (j : Int) < (pj_fi C 2 1).toInt → pj_ai C 3 j = pj_ai R 180 j
def mr_C (C R : pj_G) : Prop := (pj_fi C 21 0).toInt = (pj_fi R 171 5).toInt ∧ (pj_fi C 21 5).toInt = (pj_fi R 171 6).toInt
def mr_F (C R : pj_G) : Prop := mr_C C R ∧ mr_P C ∧ mr_V C R ∧ mr_L C R ∧ mr_H C R
theorem mr_nF {l : List (Nat × Nat)} {K : List (Nat × Nat)} (h : l.all (fun q => !(pj_mF K q.1 q.2)) = true) (q : Nat × Nat) (hq : pj_mF K q.1 q.2 = true) : q ∉ l := fun hm => by
  have z := List.all_eq_true.mp h q hm
  rw [hq] at z
  cases z
theorem mr_nA {l : List Nat} {K : List Nat} (h : l.all (fun a => !(pj_mN K a)) = true) (a : Nat) (ha : pj_mN K a = true) : a ∉ l := fun hm => by
  have z := List.all_eq_true.mp h a hm
  rw [ha] at z
  cases z
theorem mr_T0 {C R : pj_G} (h1 : (pj_fi C 2 1).toInt = 0) (h2 : (pj_fi R 171 16).toInt = 0) : mr_T C R := ⟨by omega, fun j hj => absurd hj (by omega)⟩
theorem mr_Tk {W : pj_KT} {G G' : pj_G} (h : mr_T G G) (k : pj_kpt W G G') (h1 : W.1.all (fun q => !(pj_mF [(2, 1), (171, 16)] q.1 q.2)) = true) (h2 : W.2.2.all (fun a => !(pj_mN [3, 180] a)) = true) : mr_T G' G' := by
  have e1 : pj_fi G' 2 1 = pj_fi G 2 1 := k.1 (2, 1) (mr_nF h1 _ rfl)
  have e2 : pj_fi G' 171 16 = pj_fi G 171 16 := k.1 (171, 16) (mr_nF h1 _ rfl)
  have a1 := k.2.2 3 (mr_nA h2 _ rfl)
  have a2 := k.2.2 180 (mr_nA h2 _ rfl)
  refine ⟨by rw [e1, e2]; exact h.1, fun j hj => ?_⟩
  rw [e1] at hj
  rw [a1, a2]
  exact h.2 j hj
/-- the reference's side is not written -/
theorem mr_TR {C R R' : pj_G} (h : mr_T C R) (k : ∀ b, 171 ≤ b → b < 203 → pj_get R' b = pj_get R b) : mr_T C R' := ⟨by rw [mr_gi (k 171 (by decide) (by decide))]; exact h.1, fun j hj => by rw [mr_ga (k 180 (by decide) (by decide))]; exact h.2 j hj⟩
theorem mr_Ce {C R C' R' : pj_G} (h : mr_C C R) (c0 : (pj_fi C' 21 0).toInt = (pj_fi C 21 0).toInt) (c5 : (pj_fi C' 21 5).toInt = (pj_fi C 21 5).toInt) (r5 : pj_fi R' 171 5 = pj_fi R 171 5) (r6 : pj_fi R' 171 6 = pj_fi R 171 6) : mr_C C' R' := ⟨by rw [c0, r5]; exact h.1, by rw [c5, r6]; exact h.2⟩
theorem mr_Le {C R C' R' : pj_G} (h : mr_L C R) (c0 : (pj_fi C' 21 0).toInt = (pj_fi C 21 0).toInt) (a : ∀ j, pj_ai C' 31 j = pj_ai C 31 j) (b : ∀ j, pj_ai R' 177 j = pj_ai R 177 j) : mr_L C' R' := fun i hi => by
  rw [a, b]
  exact h i (by omega)
theorem mr_He {C R C' R' : pj_G} (h : mr_H C R) (c5 : (pj_fi C' 21 5).toInt = (pj_fi C 21 5).toInt) (a : ∀ j, pj_ai C' 32 j = pj_ai C 32 j) (b : ∀ j, pj_ai R' 178 j = pj_ai R 178 j) : mr_H C' R' := fun i hi => by
  rw [a, b]
  exact h i (by omega)
def mr_FW (W : pj_KT) : Bool := W.1.all (fun q => !(pj_mF [(6, 0), (6, 1), (7, 0), (7, 1), (14, 0), (14, 1)] q.1 q.2)) && W.2.2.all (fun a => !(pj_mN [8, 9, 10, 11, 15, 16, 17, 18] a)) && (W.2.2.all (fun a => !(pj_mN [31, 32] a)))
theorem mr_FP {W : pj_KT} {C C' R : pj_G} (h : mr_F C R) (k : pj_kpt W C C') (w : mr_FW W = true) (p : mr_PC C C') : mr_F C' R := by
  unfold mr_FW at w
  rw [Bool.and_eq_true, Bool.and_eq_true] at w
  obtain ⟨hC, hP, hV, hL, hH⟩ := h
  obtain ⟨p1, p2, p3⟩ := p hP
  exact ⟨mr_Ce hC p2 p3 rfl rfl, p1, mr_VC hV k w.1.1 w.1.2, mr_Le hL p2 (k.2.2 31 (mr_nA w.2 _ rfl)) (fun _ => rfl), mr_He hH p3 (k.2.2 32 (mr_nA w.2 _ rfl)) (fun _ => rfl)⟩
theorem mr_FC {W : pj_KT} {C C' R : pj_G} (h : mr_F C R) (k : pj_kpt W C C') (w : mr_FW W = true) (w2 : W.1.all (fun q => !(mr_is q)) = true) : mr_F C' R := mr_FP h k w (mr_PC_k k w2)
def mr_RW2 (W : pj_KT) : Bool := W.1.all (fun q => !(pj_mF [(171, 3), (171, 4), (171, 5), (171, 6)] q.1 q.2)) && W.2.2.all (fun a => !(pj_mN [173, 174, 175, 176, 177, 178] a))
theorem mr_FR {W : pj_KT} {C R R' : pj_G} (h : mr_F C R) (k : pj_kpt W R R') (w : mr_RW2 W = true) : mr_F C R' := by
  unfold mr_RW2 at w
  rw [Bool.and_eq_true] at w
  obtain ⟨hC, hP, hV, hL, hH⟩ := h
  have f : ∀ m, pj_mF [(171, 3), (171, 4), (171, 5), (171, 6)] 171 m = true → pj_fi R' 171 m = pj_fi R 171 m := fun m hm => k.1 (171, m) (mr_nF w.1 (171, m) hm)
  have g : ∀ a, pj_mN [173, 174, 175, 176, 177, 178] a = true → ∀ j, pj_ai R' a j = pj_ai R a j := fun a ha => k.2.2 a (mr_nA w.2 a ha)
  refine ⟨mr_Ce hC rfl rfl (f 5 rfl) (f 6 rfl), hP, ?_, mr_Le hL rfl (fun _ => rfl) (g 177 rfl), mr_He hH rfl (fun _ => rfl) (g 178 rfl)⟩
  rcases hV with hV | hV
  · exact .inl (mr_Vk hV rfl rfl rfl rfl (fun _ => rfl) (fun _ => rfl) (fun _ => rfl) (fun _ => rfl) (f 3 rfl) (f 4 rfl) (g 173 rfl) (g 174 rfl) (g 175 rfl) (g 176 rfl))
  · exact .inr (mr_Vk hV rfl rfl rfl rfl (fun _ => rfl) (fun _ => rfl) (fun _ => rfl) (fun _ => rfl) (f 3 rfl) (f 4 rfl) (g 173 rfl) (g 174 rfl) (g 175 rfl) (g 176 rfl))
/-- the reference's cells are as they were -/
theorem mr_FG {C R R' : pj_G} (h : mr_F C R) (k : ∀ b, 171 ≤ b → b < 203 → pj_get R' b = pj_get R b) : mr_F C R' := by
  have f : ∀ m, pj_fi R' 171 m = pj_fi R 171 m := fun m => mr_gi (k 171 (by decide) (by decide))
  have g : ∀ a, 171 ≤ a → a < 203 → ∀ j, pj_ai R' a j = pj_ai R a j := fun a h1 h2 j => mr_ga (k a h1 h2)
  obtain ⟨hC, hP, hV, hL, hH⟩ := h
  refine ⟨mr_Ce hC rfl rfl (f 5) (f 6), hP, ?_, mr_Le hL rfl (fun _ => rfl) (g 177 (by decide) (by decide)), mr_He hH rfl (fun _ => rfl) (g 178 (by decide) (by decide))⟩
  rcases hV with hV | hV
  · exact .inl (mr_Vk hV rfl rfl rfl rfl (fun _ => rfl) (fun _ => rfl) (fun _ => rfl) (fun _ => rfl) (f 3) (f 4) (g 173 (by decide) (by decide)) (g 174 (by decide) (by decide)) (g 175 (by decide) (by decide)) (g 176 (by decide) (by decide)))
  · exact .inr (mr_Vk hV rfl rfl rfl rfl (fun _ => rfl) (fun _ => rfl) (fun _ => rfl) (fun _ => rfl) (f 3) (f 4) (g 173 (by decide) (by decide)) (g 174 (by decide) (by decide)) (g 175 (by decide) (by decide)) (g 176 (by decide) (by decide)))
/-- the class's cells are as they were -/
theorem mr_FX {W : pj_KT} {C C' R : pj_G} (h : mr_F C R) (k : pj_kpt W C C') (w : W.1.all (fun q => Nat.ble 171 q.1) = true) (w2 : W.2.2.all (fun a => Nat.ble 171 a) = true) : mr_F C' R := by
  have f : ∀ a m, a < 171 → pj_fi C' a m = pj_fi C a m := fun a m ha => k.1 (a, m) (fun hm => by
    have z := Nat.le_of_ble_eq_true (List.all_eq_true.mp w _ hm)
    have z : 171 ≤ a := z
    omega)
  have v : ∀ a m, a < 171 → pj_fv C' a m = pj_fv C a m := fun a m ha => k.2.1.2 (a, m) (fun hm => by
    have z := Nat.le_of_ble_eq_true (List.all_eq_true.mp w _ hm)
    have z : 171 ≤ a := z
    omega)
  have g : ∀ a, a < 171 → ∀ j, pj_ai C' a j = pj_ai C a j := fun a ha => k.2.2 a (fun hm => by
    have z := Nat.le_of_ble_eq_true (List.all_eq_true.mp w2 _ hm)
    omega)
  obtain ⟨hC, hP, hV, hL, hH⟩ := h
  have c0 : (pj_fi C' 21 0).toInt = (pj_fi C 21 0).toInt := by rw [f 21 0 (by decide)]
  have c5 : (pj_fi C' 21 5).toInt = (pj_fi C 21 5).toInt := by rw [f 21 5 (by decide)]
  refine ⟨mr_Ce hC c0 c5 rfl rfl, fun i hi hv => ?_, ?_, mr_Le hL c0 (g 31 (by decide)) (fun _ => rfl), mr_He hH c5 (g 32 (by decide)) (fun _ => rfl)⟩
  · rw [f 53 1 (by decide), f 53 2 (by decide)] at hv
    rw [f (57 + 6 * i) 0 (by omega), f (57 + 6 * i) 5 (by omega), c0, c5]
    exact hP i hi hv
  · rcases hV with hV | hV
    · exact .inl (mr_Vk hV (v 6 0 (by decide)) (v 6 1 (by decide)) (f 7 0 (by decide)) (f 7 1 (by decide)) (g 8 (by decide)) (g 9 (by decide)) (g 10 (by decide)) (g 11 (by decide)) rfl rfl (fun _ => rfl) (fun _ => rfl) (fun _ => rfl) (fun _ => rfl))
    · exact .inr (mr_Vk hV (v 6 0 (by decide)) (v 6 1 (by decide)) (f 14 0 (by decide)) (f 14 1 (by decide)) (g 15 (by decide)) (g 16 (by decide)) (g 17 (by decide)) (g 18 (by decide)) rfl rfl (fun _ => rfl) (fun _ => rfl) (fun _ => rfl) (fun _ => rfl))
/-! the calls that tell -/
theorem mr_r2 {G H : pj_G} (hI : pj_Inv G) (iH : pj_Inv H) (hT : mr_T G H) (h : mr_F G H) : (F_119tx G).1 = (F_192tx H).1 ∧ mr_F (F_119tx G).2 (F_192tx H).2 := by
  obtain ⟨hC, hP, hV, hL, hH⟩ := h
  obtain ⟨a, b, c⟩ := mr_river hI iH hT.1 hT.2 hV
  refine ⟨a, ?_⟩
  rcases c with ⟨c1, ⟨z1, z2, z3, z4, z5⟩, ⟨w1, w2, w3, w4, w5⟩⟩ | ⟨c1, c2, c3⟩
  · exact ⟨⟨by omega, by omega⟩, fun k hk hv => by rw [z4] at hv; omega, b, fun i hi => by rw [z1] at hi; omega, fun i hi => by rw [z2] at hi; omega⟩
  · have n : ∀ q : Nat × Nat, pj_mF [(21, 0), (21, 5)] q.1 q.2 = true → pj_fi (F_119tx G).2 q.1 q.2 = pj_fi G q.1 q.2 := fun q hq => c2.1 q (mr_nF (K := [(21, 0), (21, 5)]) rfl q hq)
    have m : ∀ q : Nat × Nat, pj_mF [(171, 5), (171, 6)] q.1 q.2 = true → pj_fi (F_192tx H).2 q.1 q.2 = pj_fi H q.1 q.2 := fun q hq => c3.1 q (mr_nF (K := [(171, 5), (171, 6)]) rfl q hq)
    have c0 : (pj_fi (F_119tx G).2 21 0).toInt = (pj_fi G 21 0).toInt := by rw [n (21, 0) rfl]
    have c5 : (pj_fi (F_119tx G).2 21 5).toInt = (pj_fi G 21 5).toInt := by rw [n (21, 5) rfl]
    exact ⟨mr_Ce hC c0 c5 (m (171, 5) rfl) (m (171, 6) rfl), mr_k hP c2 rfl, b, mr_Le hL c0 (c2.2.2 31 (by decide)) (c3.2.2 177 (by decide)), mr_He hH c5 (c2.2.2 32 (by decide)) (c3.2.2 178 (by decide))⟩
theorem mr_r3 {G H : pj_G} (hI : pj_Inv G) (iH : pj_Inv H) (hU : (pj_fi H 171 30).toInt ≤ 15) (hT : mr_T G H) (h : mr_F G H) : (F_120tx G).1 = (F_196tx H).1 ∧ mr_F (F_120tx G).2 (F_196tx H).2 := by
  obtain ⟨hC, hP, hV, hL, hH⟩ := h
  obtain ⟨a, ⟨b1, b2, b3⟩, c⟩ := mr_bridges hI iH hT.1 hT.2 hC.1
  obtain ⟨iK, kK, -⟩ := fr_120tx G hI
  obtain ⟨iE, kE, -⟩ := fr_196tx H iH hU
  have c5 : (pj_fi (F_120tx G).2 21 5).toInt = (pj_fi G 21 5).toInt := by rw [kK.1 (21, 5) (by decide)]
  refine ⟨a, ⟨b1, by rw [c5, kE.1 (171, 6) (by decide)]; exact hC.2⟩, ?_, mr_VR (mr_VC hV kK rfl rfl) kE rfl rfl, b2 hL, mr_He hH c5 (kK.2.2 32 (by decide)) (kE.2.2 178 (by decide))⟩
  rcases c with ⟨c1, c2, -⟩ | ⟨c1, c2, c3, -⟩
  · intro k hk hv
    rw [c2] at hv
    omega
  · intro k hk hv
    rw [c2, c5, kK.1 (57 + 6 * k, 0) (fun hm => by have z := List.all_eq_true.mp (show kc_120tx.1.all (fun q => Nat.ble q.1 53) = true from rfl) _ hm; have z : 57 + 6 * k ≤ 53 := Nat.le_of_ble_eq_true z; omega), kK.1 (57 + 6 * k, 5) (fun hm => by have z := List.all_eq_true.mp (show kc_120tx.1.all (fun q => Nat.ble q.1 53) = true from rfl) _ hm; have z : 57 + 6 * k ≤ 53 := Nat.le_of_ble_eq_true z; omega)]
    rw [c3, kK.1 (53, 1) (by decide)] at hv
    exact hP k hk hv
theorem mr_people2 {G H : pj_G} (hI : pj_Inv G) (iH : pj_Inv H) (hs : (pj_fi G 2 1).toInt = (pj_fi H 171 16).toInt) (ht : ∀ j : Nat, (j : Int) < (pj_fi G 2 1).toInt → pj_ai G 3 j = pj_ai H 180 j) (hc : (pj_fi G 21 5).toInt = (pj_fi H 171 6).toInt) (hV : mr_V G H) : (F_121tx G).1 = (F_197tx H).1 ∧ ((pj_fi (F_121tx G).2 21 5).toInt = (pj_fi (F_197tx H).2 171 6).toInt ∧ (mr_H G H → mr_H (F_121tx G).2 (F_197tx H).2) ∧ (mr_Sp G H → mr_Sp (F_121tx G).2 (F_197tx H).2) ∧ mr_np3 H (F_197tx H).2) ∧ ((1 ≤ (F_121tx G).1.toInt ∧ (pj_fi (F_121tx G).2 53 2).toInt = 0 ∧ (pj_fi (F_197tx H).2 171 30).toInt = 0 ∧ pj_fi (F_197tx H).2 171 7 = pj_fi H 171 7 + Int32.ofInt 1 ∧ (pj_fi (F_121tx G).2 21 5).toInt = (pj_fi G 21 5).toInt + (F_121tx G).1.toInt) ∨ ((F_121tx G).1.toInt ≤ 0 ∧ (pj_fi (F_121tx G).2 21 5).toInt = (pj_fi G 21 5).toInt ∧ pj_fi (F_121tx G).2 53 2 = pj_fi G 53 2 ∧ pj_fi (F_197tx H).2 171 30 = pj_fi H 171 30 ∧ pj_fi (F_197tx H).2 171 7 = pj_fi H 171 7)) := by
  rcases hV with v | v
  · exact mr_people_7 hI iH hs ht hc v.1 v.2.2.1
  · exact mr_people_14 hI iH hs ht hc v.1 v.2.2.1
theorem mr_r4 {G H : pj_G} (hI : pj_Inv G) (iH : pj_Inv H) (hU : (pj_fi H 171 30).toInt ≤ 15) (hT : mr_T G H) (h : mr_F G H) : (F_121tx G).1 = (F_197tx H).1 ∧ mr_F (F_121tx G).2 (F_197tx H).2 := by
  obtain ⟨hC, hP, hV, hL, hH⟩ := h
  obtain ⟨a, ⟨b1, b2, b3⟩, c⟩ := mr_people2 hI iH hT.1 hT.2 hC.2 hV
  obtain ⟨iK, kK, -⟩ := fr_121tx G hI
  obtain ⟨iE, kE, -⟩ := fr_197tx H iH hU
  have c0 : (pj_fi (F_121tx G).2 21 0).toInt = (pj_fi G 21 0).toInt := by rw [kK.1 (21, 0) (by decide)]
  refine ⟨a, ⟨by rw [c0, kE.1 (171, 5) (by decide)]; exact hC.1, b1⟩, ?_, mr_VR (mr_VC hV kK rfl rfl) kE rfl rfl, mr_Le hL c0 (kK.2.2 31 (by decide)) (kE.2.2 177 (by decide)), b2 hH⟩
  rcases c with ⟨c1, c2, -⟩ | ⟨c1, c2, c3, -⟩
  · intro k hk hv
    rw [c2] at hv
    omega
  · intro k hk hv
    rw [c2, c0, kK.1 (57 + 6 * k, 0) (fun hm => by have z := List.all_eq_true.mp (show kc_121tx.1.all (fun q => Nat.ble q.1 53) = true from rfl) _ hm; have z : 57 + 6 * k ≤ 53 := Nat.le_of_ble_eq_true z; omega), kK.1 (57 + 6 * k, 5) (fun hm => by have z := List.all_eq_true.mp (show kc_121tx.1.all (fun q => Nat.ble q.1 53) = true from rfl) _ hm; have z : 57 + 6 * k ≤ 53 := Nat.le_of_ble_eq_true z; omega)]
    rw [c3, kK.1 (53, 1) (by decide)] at hv
    exact hP k hk hv
