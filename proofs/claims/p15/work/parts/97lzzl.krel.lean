/-! WHAT IS KEPT, CALL BY CALL -/
def mr_SH (W : pj_KT) : Bool := W.1.all (fun q => !(pj_mF [(153, 0), (153, 5), (159, 0), (159, 5), (165, 0), (165, 5)] q.1 q.2)) && W.2.2.all (fun a => !(Nat.beq a 56))
theorem mr_shk {W : pj_KT} {C C' : pj_G} (k : pj_kpt W C C') (w : mr_SH W = true) (i : Nat) (hi : i < 3) : (pj_ai C' 56 i).toInt = (pj_ai C 56 i).toInt ∧ (pj_fi C' (153 + 6 * i) 0).toInt = (pj_fi C (153 + 6 * i) 0).toInt ∧ (pj_fi C' (153 + 6 * i) 5).toInt = (pj_fi C (153 + 6 * i) 5).toInt := by
  unfold mr_SH at w
  rw [Bool.and_eq_true] at w
  have n2 : (56 : Nat) ∉ W.2.2 := fun hm => by
    have z := List.all_eq_true.mp w.2 _ hm
    cases z
  have f : ∀ m : Nat, m = 0 ∨ m = 5 → pj_fi C' (153 + 6 * i) m = pj_fi C (153 + 6 * i) m := fun m hm => k.1 (153 + 6 * i, m) (mr_nF w.1 _ (by
    rcases (show i = 0 ∨ i = 1 ∨ i = 2 by omega) with rfl | rfl | rfl <;> rcases hm with rfl | rfl <;> rfl))
  rw [k.2.2 56 n2 i, f 0 (.inl rfl), f 5 (.inr rfl)]
  exact ⟨rfl, rfl, rfl⟩
theorem mr_KP {W : pj_KT} {C C' R : pj_G} (h : mr_K C R) (k : pj_kpt W C C') (w : mr_SH W = true) (c0 : (pj_fi C' 21 0).toInt = (pj_fi C 21 0).toInt) (c5 : (pj_fi C' 21 5).toInt = (pj_fi C 21 5).toInt) : mr_K C' R := mr_Kk h (mr_shk k w) c0 c5 (fun _ => ⟨rfl, rfl⟩) rfl
theorem mr_KC {W : pj_KT} {C C' R : pj_G} (h : mr_K C R) (k : pj_kpt W C C') (w : mr_SH W = true) (w2 : W.1.all (fun q => !(mr_is q)) = true) : mr_K C' R := mr_KP h k w (by rw [mr_kf k w2 (21, 0) rfl]) (by rw [mr_kf k w2 (21, 5) rfl])
theorem mr_KG {C R R' : pj_G} (h : mr_K C R) (k : ∀ b, 171 ≤ b → b < 203 → pj_get R' b = pj_get R b) : mr_K C R' := mr_Kk h (fun _ _ => ⟨rfl, rfl, rfl⟩) rfl rfl (fun i => by rw [mr_ga (k 200 (by decide) (by decide)), mr_ga (k 201 (by decide) (by decide))]; exact ⟨rfl, rfl⟩) (by rw [mr_gi (k 171 (by decide) (by decide))])
theorem mr_KX {W : pj_KT} {C C' R : pj_G} (h : mr_K C R) (k : pj_kpt W C C') (w : W.1.all (fun q => Nat.ble 171 q.1) = true) (w2 : W.2.2.all (fun a => Nat.ble 171 a) = true) : mr_K C' R := by
  have f : ∀ a m, a < 171 → pj_fi C' a m = pj_fi C a m := fun a m ha => k.1 (a, m) (fun hm => by
    have z := Nat.le_of_ble_eq_true (List.all_eq_true.mp w _ hm)
    have z : 171 ≤ a := z
    omega)
  have g : ∀ a, a < 171 → ∀ j, pj_ai C' a j = pj_ai C a j := fun a ha => k.2.2 a (fun hm => by
    have z := Nat.le_of_ble_eq_true (List.all_eq_true.mp w2 _ hm)
    omega)
  exact mr_Kk h (fun i hi => by rw [g 56 (by decide), f (153 + 6 * i) 0 (by omega), f (153 + 6 * i) 5 (by omega)]; exact ⟨rfl, rfl, rfl⟩) (by rw [f 21 0 (by decide)]) (by rw [f 21 5 (by decide)]) (fun _ => ⟨rfl, rfl⟩) rfl
def mr_RK (W : pj_KT) : Bool := W.1.all (fun q => !(pj_mF [(171, 7)] q.1 q.2)) && W.2.2.all (fun a => !(pj_mN [200, 201] a))
theorem mr_KR {W : pj_KT} {C R R' : pj_G} (h : mr_K C R) (k : pj_kpt W R R') (w : mr_RK W = true) : mr_K C R' := by
  unfold mr_RK at w
  rw [Bool.and_eq_true] at w
  exact mr_Kk h (fun _ _ => ⟨rfl, rfl, rfl⟩) rfl rfl (fun i => by rw [k.2.2 200 (mr_nA w.2 _ rfl) i, k.2.2 201 (mr_nA w.2 _ rfl) i]; exact ⟨rfl, rfl⟩) (by rw [k.1 (171, 7) (mr_nF w.1 _ rfl)])
theorem mr_Nk {n : Int} {R R' : pj_G} (h : mr_N n R) (e : pj_fi R' 171 7 = pj_fi R 171 7) : mr_N (n + 5) R' := by
  unfold mr_N at h ⊢
  rw [e]
  omega
theorem mr_N1 {n : Int} {R R' : pj_G} (h : mr_N n R) (hn : n ≤ 2560) (e : pj_fi R' 171 7 = pj_fi R 171 7 + Int32.ofInt 1) : mr_N (n + 5) R' ∧ (pj_fi R' 171 7).toInt = (pj_fi R 171 7).toInt + 1 := by
  have k1 : (Int32.ofInt 1).toInt = 1 := by decide
  unfold mr_N at h ⊢
  have s : (pj_fi R 171 7 + Int32.ofInt 1).toInt = (pj_fi R 171 7).toInt + 1 := by rw [pj_addI (by omega) (by omega), k1]
  rw [e, s]
  omega
theorem mr_k2 {n : Int} {G H : pj_G} (hI : pj_Inv G) (iH : pj_Inv H) (hR : pj_RI H) (hU : (pj_fi H 171 30).toInt ≤ 15) (hT : mr_T G H) (h : mr_F G H) (hn : n ≤ 2560) (hN : mr_N n H) (hK : mr_K G H) : mr_N (n + 5) (F_192tx H).2 ∧ mr_K (F_119tx G).2 (F_192tx H).2 := by
  obtain ⟨hC, hP, hV, hL, hH⟩ := h
  obtain ⟨a, b, c⟩ := mr_river hI iH hT.1 hT.2 hV
  obtain ⟨iE, kE, -⟩ := fr_192tx H iH hR hU
  have r : ∀ i : Nat, (pj_ai (F_192tx H).2 200 i).toInt = (pj_ai H 200 i).toInt ∧ (pj_ai (F_192tx H).2 201 i).toInt = (pj_ai H 201 i).toInt := fun i => by rw [kE.2.2 200 (by decide) i, kE.2.2 201 (by decide) i]; exact ⟨rfl, rfl⟩
  rcases c with ⟨c1, ⟨z1, z2, z3, z4, z5⟩, ⟨w1, w2, w3, w4, w5⟩⟩ | ⟨c1, c2, c3⟩
  · obtain ⟨q1, q2⟩ := mr_N1 hN hn w3
    exact ⟨q1, mr_Kz hK z5 r q2⟩
  · have e7 := c3.1 (171, 7) (by decide)
    exact ⟨mr_Nk hN e7, mr_Kk hK (mr_shk c2 rfl) (by rw [c2.1 (21, 0) (by decide)]) (by rw [c2.1 (21, 5) (by decide)]) r (by rw [e7])⟩
theorem mr_k3 {n : Int} {G H : pj_G} (hI : pj_Inv G) (iH : pj_Inv H) (hU : (pj_fi H 171 30).toInt ≤ 15) (hT : mr_T G H) (h : mr_F G H) (hn : n ≤ 2560) (hN : mr_N n H) (hK : mr_K G H) : mr_N (n + 5) (F_196tx H).2 ∧ mr_K (F_120tx G).2 (F_196tx H).2 := by
  obtain ⟨hC, hP, hV, hL, hH⟩ := h
  obtain ⟨a, ⟨b1, b2, b3⟩, c⟩ := mr_bridges hI iH hT.1 hT.2 hC.1
  obtain ⟨iK, kK, -⟩ := fr_120tx G hI
  obtain ⟨iE, kE, -⟩ := fr_196tx H iH hU
  have c5 : (pj_fi (F_120tx G).2 21 5).toInt = (pj_fi G 21 5).toInt := by rw [kK.1 (21, 5) (by decide)]
  have r : ∀ i : Nat, (pj_ai (F_196tx H).2 200 i).toInt = (pj_ai H 200 i).toInt ∧ (pj_ai (F_196tx H).2 201 i).toInt = (pj_ai H 201 i).toInt := fun i => by rw [kE.2.2 200 (by decide) i, kE.2.2 201 (by decide) i]; exact ⟨rfl, rfl⟩
  rcases c with ⟨c1, c2, c3, c4, c6⟩ | ⟨c1, c2, c3, c4, c6⟩
  · obtain ⟨q1, q2⟩ := mr_N1 hN hn c4
    exact ⟨q1, mr_Km hK (mr_shk kK rfl) (by omega) (by omega) (by omega) r q2⟩
  · exact ⟨mr_Nk hN c6, mr_Kk hK (mr_shk kK rfl) c2 c5 r (by rw [c6])⟩
theorem mr_k4 {n : Int} {G H : pj_G} (hI : pj_Inv G) (iH : pj_Inv H) (hU : (pj_fi H 171 30).toInt ≤ 15) (hT : mr_T G H) (h : mr_F G H) (hn : n ≤ 2560) (hN : mr_N n H) (hK : mr_K G H) : mr_N (n + 5) (F_197tx H).2 ∧ mr_K (F_121tx G).2 (F_197tx H).2 := by
  obtain ⟨hC, hP, hV, hL, hH⟩ := h
  obtain ⟨a, ⟨b1, b2, b3⟩, c⟩ := mr_people2 hI iH hT.1 hT.2 hC.2 hV
  obtain ⟨iK, kK, -⟩ := fr_121tx G hI
  obtain ⟨iE, kE, -⟩ := fr_197tx H iH hU
  have c0 : (pj_fi (F_121tx G).2 21 0).toInt = (pj_fi G 21 0).toInt := by rw [kK.1 (21, 0) (by decide)]
  have r : ∀ i : Nat, (pj_ai (F_197tx H).2 200 i).toInt = (pj_ai H 200 i).toInt ∧ (pj_ai (F_197tx H).2 201 i).toInt = (pj_ai H 201 i).toInt := fun i => by rw [kE.2.2 200 (by decide) i, kE.2.2 201 (by decide) i]; exact ⟨rfl, rfl⟩
  rcases c with ⟨c1, c2, c3, c4, c6⟩ | ⟨c1, c2, c3, c4, c6⟩
  · obtain ⟨q1, q2⟩ := mr_N1 hN hn c4
    exact ⟨q1, mr_Km hK (mr_shk kK rfl) (by omega) (by omega) (by omega) r q2⟩
  · exact ⟨mr_Nk hN c6, mr_Kk hK (mr_shk kK rfl) c0 c2 r (by rw [c6])⟩
