/-! THE RULE READ IN STEP: the class's steps (its draft), the reference's codes -/
noncomputable def pr_dr (G : pj_G) (j : Nat) : Int32 := cond (pj_rb G 27 2 28) (pj_ai G 28 j) (pj_ai G 29 j)
theorem pr_drk {G G' : pj_G} (v : pj_fv G' 27 2 = pj_fv G 27 2) (a : ∀ j, pj_ai G' 28 j = pj_ai G 28 j) (b : ∀ j, pj_ai G' 29 j = pj_ai G 29 j) (j : Nat) : pr_dr G' j = pr_dr G j := by
  unfold pr_dr pj_rb
  rw [v, a, b]
/-- steps that came behind the others: cs on the class's side, rs on the reference's -/
def pr_e (C R C' R' : pj_G) (cs rs : List Int32) : Prop := ∃ d r : Nat, (pj_fi C 27 3).toInt = (d : Int) ∧ (pj_fi R 171 27).toInt = (r : Int) ∧ (pj_fi C' 27 3).toInt = (d : Int) + (cs.length : Int) ∧ (pj_fi R' 171 27).toInt = (r : Int) + (rs.length : Int) ∧ (∀ j, j < d → pr_dr C' j = pr_dr C j) ∧ (∀ j, j < r → pj_ai R' 183 j = pj_ai R 183 j) ∧ mr_cd (pr_dr C') d cs.length = cs ∧ mr_cd (pj_ai R' 183) r rs.length = rs
theorem pr_rC {C : pj_G} (i : pj_Inv C) : (0 : Int) ≤ (pj_fi C 27 3).toInt ∧ (pj_fi C 27 3).toInt ≤ 40 := i.2.1 27 3 (0, 40) rfl
theorem pr_rR {R : pj_G} (i : pj_Inv R) : (0 : Int) ≤ (pj_fi R 171 27).toInt ∧ (pj_fi R 171 27).toInt ≤ 80 := i.2.1 171 27 (0, 80) rfl
theorem pr_nat {x : Int} (h : 0 ≤ x) : ∃ d : Nat, x = (d : Int) := ⟨x.toNat, (Int.toNat_of_nonneg h).symm⟩
theorem pr_e_t {C R C1 R1 C2 R2 : pj_G} {cs rs cs2 rs2 : List Int32} (h : pr_e C R C1 R1 cs rs) (g : pr_e C1 R1 C2 R2 cs2 rs2) : pr_e C R C2 R2 (cs ++ cs2) (rs ++ rs2) := by
  obtain ⟨d, r, a1, a2, a3, a4, a5, a6, a7, a8⟩ := h
  obtain ⟨d2, r2, b1, b2, b3, b4, b5, b6, b7, b8⟩ := g
  have e1 : d2 = d + cs.length := by omega
  have e2 : r2 = r + rs.length := by omega
  subst e1
  subst e2
  refine ⟨d, r, a1, a2, by rw [List.length_append]; omega, by rw [List.length_append]; omega, fun j hj => (b5 j (by omega)).trans (a5 j hj), fun j hj => (b6 j (by omega)).trans (a6 j hj), ?_, ?_⟩
  · rw [List.length_append, mr_cda, b7, mr_cdc (f := pr_dr C2) (g := pr_dr C1) cs.length d (fun j _ h2 => b5 j h2), a7]
  · rw [List.length_append, mr_cda, b8, mr_cdc (f := pj_ai R2 183) (g := pj_ai R1 183) rs.length r (fun j _ h2 => b6 j h2), a8]
theorem pr_e_0 {C R C' R' : pj_G} (iC : pj_Inv C) (iR : pj_Inv R) (c : pj_fi C' 27 3 = pj_fi C 27 3) (cd : ∀ j, pr_dr C' j = pr_dr C j) (r : pj_fi R' 171 27 = pj_fi R 171 27) (rd : ∀ j, pj_ai R' 183 j = pj_ai R 183 j) : pr_e C R C' R' [] [] := by
  obtain ⟨d, hd⟩ := pr_nat (pr_rC iC).1
  obtain ⟨e, he⟩ := pr_nat (pr_rR iR).1
  refine ⟨d, e, hd, he, ?_, ?_, fun j _ => cd j, fun j _ => rd j, rfl, rfl⟩
  · rw [c]
    show _ = (d : Int) + ((0 : Nat) : Int)
    omega
  · rw [r]
    show _ = (e : Int) + ((0 : Nat) : Int)
    omega
theorem pr_60 {G : pj_G} (iG : pj_Inv G) (sp : Int32) (rs : 0 ≤ sp.toInt ∧ sp.toInt ≤ 3255 ∧ (sp.toInt ≤ 1006 ∨ 2000 ≤ sp.toInt)) (h : (pj_fi G 27 3).toInt ≤ 39) : (pj_fi (F_60x G sp) 27 3).toInt = (pj_fi G 27 3).toInt + 1 ∧ pr_dr (F_60x G sp) (pj_fi G 27 3).toInt.toNat = sp ∧ ∀ j : Nat, (j : Int) ≠ (pj_fi G 27 3).toInt → pr_dr (F_60x G sp) j = pr_dr G j := by
  obtain ⟨i, k, -⟩ := fr_60x G iG sp rs
  have r0 := pr_rC iG
  have k1 : (Int32.ofInt 1).toInt = 1 := by decide
  have k40 : (((Int8.ofInt 40).toInt32)).toInt = 40 := by decide
  have s : (pj_fi G 27 3 + Int32.ofInt 1).toInt = (pj_fi G 27 3).toInt + 1 := by rw [pj_addI (by omega) (by omega), k1]
  have hv : pj_fv (F_60x G sp) 27 2 = pj_fv G 27 2 := k.2.1.2 (27, 2) (by decide)
  have e : F_60x G sp = cond (pj_rb G 27 2 28) (pj_wv (pj_wa G 28 (pj_fi G 27 3).toInt.toNat sp) 27 3 (.int (pj_fi G 27 3 + Int32.ofInt 1))) (pj_wv (pj_wa G 29 (pj_fi G 27 3).toInt.toNat sp) 27 3 (.int (pj_fi G 27 3 + Int32.ofInt 1))) := by
    rw [F_60x_e]
    simp only [pj_nm_x]
    rw [pj_b_geF (show (pj_fi G 27 3).toInt < (((Int8.ofInt 40).toInt32)).toInt by omega), pj_cF]
  have hb : pj_rb (F_60x G sp) 27 2 28 = pj_rb G 27 2 28 := by
    unfold pj_rb
    rw [hv]
  unfold pr_dr
  rw [hb]
  cases q : pj_rb G 27 2 28 with
  | true =>
    rw [q, pj_cT] at e
    rw [e]
    refine ⟨?_, ?_, fun j hj => ?_⟩
    · rw [pj_fi_wi (mr_sa iG.1 rfl _ _) (a := 27) (ci := 7) (k := 3) rfl, s]
    · rw [pj_cT, pj_ai_wv, pj_ai_wa_eq iG.1 rfl]
    · rw [pj_cT, pj_cT, pj_ai_wv, pj_ai_wa_nj _ _ _ _ _ (by omega)]
  | false =>
    rw [q, pj_cF] at e
    rw [e]
    refine ⟨?_, ?_, fun j hj => ?_⟩
    · rw [pj_fi_wi (mr_sa iG.1 rfl _ _) (a := 27) (ci := 7) (k := 3) rfl, s]
    · rw [pj_cF, pj_ai_wv, pj_ai_wa_eq iG.1 rfl]
    · rw [pj_cF, pj_cF, pj_ai_wv, pj_ai_wa_nj _ _ _ _ _ (by omega)]
theorem pr_e_c {C R : pj_G} (iC : pj_Inv C) (iR : pj_Inv R) (sp : Int32) (rs : 0 ≤ sp.toInt ∧ sp.toInt ≤ 3255 ∧ (sp.toInt ≤ 1006 ∨ 2000 ≤ sp.toInt)) (h : (pj_fi C 27 3).toInt ≤ 39) : pr_e C R (F_60x C sp) R [sp] [] := by
  obtain ⟨e1, e2, e3⟩ := pr_60 iC sp rs h
  obtain ⟨d, hd⟩ := pr_nat (pr_rC iC).1
  obtain ⟨r, hr⟩ := pr_nat (pr_rR iR).1
  have ed : (pj_fi C 27 3).toInt.toNat = d := by omega
  rw [ed] at e2
  refine ⟨d, r, hd, hr, ?_, ?_, fun j hj => e3 j (by omega), fun _ _ => rfl, ?_, rfl⟩
  · show (pj_fi (F_60x C sp) 27 3).toInt = (d : Int) + ((1 : Nat) : Int)
    omega
  · show (pj_fi R 171 27).toInt = (r : Int) + ((0 : Nat) : Int)
    omega
  · show [pr_dr (F_60x C sp) d] = [sp]
    rw [e2]
theorem pr_e_r {C R : pj_G} (iC : pj_Inv C) (iR : pj_Inv R) (c : Int32) (p0 : -1 ≤ c.toInt ∧ c.toInt ≤ 3000 ∧ (c.toInt ≤ 1006 ∨ 2000 ≤ c.toInt)) (p1 : (pj_fi R 171 27).toInt ≤ 79) : pr_e C R C (F_198x R c) [] [c] := by
  obtain ⟨-, -, e1, e3, e2⟩ := fr_198x R iR c p0 p1
  obtain ⟨d, hd⟩ := pr_nat (pr_rC iC).1
  obtain ⟨r, hr⟩ := pr_nat (pr_rR iR).1
  have er : (pj_fi R 171 27).toInt.toNat = r := by omega
  rw [er] at e2
  refine ⟨d, r, hd, hr, ?_, ?_, fun _ _ => rfl, fun j hj => e3 j (by omega), rfl, ?_⟩
  · show (pj_fi C 27 3).toInt = (d : Int) + ((0 : Nat) : Int)
    omega
  · show (pj_fi (F_198x R c) 171 27).toInt = (r : Int) + ((1 : Nat) : Int)
    omega
  · show [pj_ai (F_198x R c) 183 r] = [c]
    rw [Int32.toInt_inj.mp e2]
/-- what the steps come to: on the class's side below 0 (m) -/
def pr_sem (m : Bool) (cs rs : List Int32) : Prop := ∀ th : Nat → Int32, ∃ v : Int32, ∀ st : List Int32, mr_evl (mr_s1 th) cs st = some (cond m (-v) v :: st) ∧ mr_evl (mr_r1 th) rs st = some (v :: st)
def pr_ok (l : List Int32) : Prop := ∀ c ∈ l, c.toInt < 1000 ∨ 1000 ≤ c.toInt ∧ c.toInt ≤ 1006 ∨ 2000 ≤ c.toInt
theorem pr_ok_n : pr_ok [] := fun c hc => by cases hc
theorem pr_ok_a {l m : List Int32} (h : pr_ok l) (g : pr_ok m) : pr_ok (l ++ m) := fun c hc => by
  rcases List.mem_append.mp hc with q | q
  · exact h c q
  · exact g c q
theorem pr_ok_1 {c : Int32} (h : c.toInt ≤ 1006 ∨ 2000 ≤ c.toInt) : pr_ok [c] := fun x hx => by
  rw [List.mem_singleton.mp hx]
  omega
/-- a number, a thing -/
theorem pr_sem1 (x : Int32) (h : x.toInt ≤ 1006) : pr_sem false [x] [x] := fun th => by
  by_cases q : x.toInt < 1000
  · refine ⟨x, fun st => ⟨?_, ?_⟩⟩
    · show (match mr_s1 th x st with
        | some s => some s
        | none => none) = some (x :: st)
      unfold mr_s1
      rw [if_pos q]
    · show (match mr_r1 th x st with
        | some s => some s
        | none => none) = some (x :: st)
      unfold mr_r1
      rw [if_pos q]
  · refine ⟨th (x - (Int16.ofInt 1000).toInt32).toInt.toNat, fun st => ⟨?_, ?_⟩⟩
    · show (match mr_s1 th x st with
        | some s => some s
        | none => none) = some (_ :: st)
      unfold mr_s1
      rw [if_neg q, if_pos (by omega)]
      rfl
    · show (match mr_r1 th x st with
        | some s => some s
        | none => none) = some (_ :: st)
      unfold mr_r1
      rw [if_neg q, if_pos (by omega)]
/-- a minus ahead, in the class -/
theorem pr_semC {cs rs : List Int32} (h : pr_sem false cs rs) : pr_sem true (cs ++ [(Int16.ofInt 2000).toInt32]) rs := fun th => by
  obtain ⟨v, hv⟩ := h th
  refine ⟨v, fun st => ⟨?_, (hv st).2⟩⟩
  rw [mr_evl_a _ _ _ _ _ (hv st).1]
  show (match mr_s1 th ((Int16.ofInt 2000).toInt32) (v :: st) with
    | some s => some s
    | none => none) = some (-v :: st)
  unfold mr_s1
  rw [if_neg (show ¬ ((Int16.ofInt 2000).toInt32).toInt < 1000 by decide), if_neg (show ¬ ((Int16.ofInt 2000).toInt32).toInt < 2000 by decide), if_pos (show ((Int16.ofInt 2000).toInt32).toInt = 2000 by decide)]
theorem pr_ng (m : Bool) (v : Int32) : cond (!m) (-(-v)) (-v) = cond m (-v) v := by
  cases m with
  | true => rfl
  | false =>
    show -(-v) = v
    rw [Int32.neg_neg]
/-- .. in the reference -/
theorem pr_semR {m : Bool} {cs rs : List Int32} (h : pr_sem (!m) cs rs) : pr_sem m cs (rs ++ [(Int16.ofInt 3000).toInt32]) := fun th => by
  obtain ⟨v, hv⟩ := h th
  refine ⟨-v, fun st => ⟨?_, ?_⟩⟩
  · rw [(hv st).1]
    cases m with
    | true =>
      show some (v :: st) = some (-(-v) :: st)
      rw [Int32.neg_neg]
    | false => rfl
  · rw [mr_evl_a _ _ _ _ _ (hv st).2]
    show (match mr_r1 th ((Int16.ofInt 3000).toInt32) (v :: st) with
      | some s => some s
      | none => none) = some (-v :: st)
    unfold mr_r1
    rw [if_neg (show ¬ ((Int16.ofInt 3000).toInt32).toInt < 1000 by decide), if_neg (show ¬ ((Int16.ofInt 3000).toInt32).toInt < 2000 by decide), if_pos (show ((Int16.ofInt 3000).toInt32).toInt = 3000 by decide)]
/-- two, and a sign between -/
theorem pr_semO {c1 r1 c2 r2 : List Int32} (h1 : pr_sem false c1 r1) (h2 : pr_sem false c2 r2) {g act c r : Int32} (ho : mr_op g.toInt act.toInt) (ec : c.toInt = 3000 + g.toInt) (er : r.toInt = 2000 + act.toInt) : pr_sem false (c1 ++ c2 ++ [c]) (r1 ++ r2 ++ [r]) := fun th => by
  obtain ⟨v1, hv1⟩ := h1 th
  obtain ⟨v2, hv2⟩ := h2 th
  have k2 : ((Int16.ofInt 2000).toInt32).toInt = 2000 := by decide
  have k3 : ((Int16.ofInt 3000).toInt32).toInt = 3000 := by decide
  have gr : (42 : Int) ≤ g.toInt ∧ g.toInt ≤ 62 := by
    unfold mr_op at ho
    omega
  have ar : (0 : Int) ≤ act.toInt ∧ act.toInt ≤ 6 := by
    unfold mr_op at ho
    omega
  have eg : c - (Int16.ofInt 3000).toInt32 = g := Int32.toInt_inj.mp (by rw [pj_subI (by omega) (by omega), k3]; omega)
  have ea : r - (Int16.ofInt 2000).toInt32 = act := Int32.toInt_inj.mp (by rw [pj_subI (by omega) (by omega), k2]; omega)
  refine ⟨mr_wk act v1 v2, fun st => ⟨?_, ?_⟩⟩
  · rw [List.append_assoc, mr_evl_a _ _ _ _ _ (hv1 st).1, mr_evl_a _ _ _ _ _ (hv2 _).1]
    show (match mr_s1 th c (v2 :: v1 :: st) with
      | some s => some s
      | none => none) = some (mr_wk act v1 v2 :: st)
    unfold mr_s1
    rw [if_neg (by omega), if_neg (by omega), if_neg (by omega)]
    show some (mr_ap (c - (Int16.ofInt 3000).toInt32) v1 v2 :: st) = _
    rw [eg, mr_apwk ho]
  · rw [List.append_assoc, mr_evl_a _ _ _ _ _ (hv1 st).2, mr_evl_a _ _ _ _ _ (hv2 _).2]
    show (match mr_r1 th r (v2 :: v1 :: st) with
      | some s => some s
      | none => none) = some (mr_wk act v1 v2 :: st)
    unfold mr_r1
    rw [if_neg (by omega), if_neg (by omega), if_neg (by omega)]
    show some (mr_wk (r - (Int16.ofInt 2000).toInt32) v1 v2 :: st) = _
    rw [ea]
/-- in step so far: from C, R on to C2, R2 with the steps cs, rs (s: signs that the class has taken ahead) -/
def pr_P (s dp : Int) (C R C2 R2 : pj_G) (cs rs : List Int32) : Prop := (pj_Inv C ∧ pj_Inv R ∧ (pj_fi C 27 3).toInt + s ≤ (pj_fi C 2 3).toInt ∧ (pj_fi R 171 27).toInt ≤ (pj_fi R 171 17).toInt ∧ (pj_fi C 2 3).toInt = (pj_fi R 171 17).toInt) ∧ (tx_RD C2 R2 ∧ (pj_fi C2 2 2).toInt ≤ 40 ∧ (pj_fi R2 171 19).toInt = dp) ∧ pr_e C R C2 R2 cs rs ∧ pr_ok cs ∧ pr_ok rs ∧ (cs.length : Int) + (pj_fi C 2 3).toInt ≤ (pj_fi C2 2 3).toInt + s ∧ (rs.length : Int) + (pj_fi R 171 17).toInt ≤ (pj_fi R2 171 17).toInt
def pr_S (dp : Int) (C R : pj_G) : Prop := tx_RD C R ∧ (pj_fi C 2 2).toInt ≤ 40 ∧ (pj_fi C 27 3).toInt ≤ (pj_fi C 2 3).toInt ∧ (pj_fi R 171 27).toInt ≤ (pj_fi R 171 17).toInt ∧ (pj_fi R 171 19).toInt = dp
def pr_X (m : Bool) (s dp : Int) (C R C' : pj_G) (y : Int32) (R' : pj_G) : Prop := (y.toInt = 1 ∧ ∃ cs rs, pr_P s dp C R C' R' cs rs ∧ pr_sem m cs rs) ∨ (y.toInt = 0 ∧ tx_ER C' R')
theorem pr_P0 {s dp : Int} {C R : pj_G} (h : pr_S dp C R) (hs : 0 ≤ s) (hD : (pj_fi C 27 3).toInt + s ≤ (pj_fi C 2 3).toInt) : pr_P s dp C R C R [] [] := by
  obtain ⟨d, h1, h2, h3, h4⟩ := h
  refine ⟨⟨d.1, d.2.1, hD, h3, d.2.2.2.1⟩, ⟨d, h1, h4⟩, pr_e_0 d.1 d.2.1 rfl (fun _ => rfl) rfl (fun _ => rfl), pr_ok_n, pr_ok_n, ?_, ?_⟩
  · show ((0 : Nat) : Int) + _ ≤ _
    omega
  · show ((0 : Nat) : Int) + _ ≤ _
    omega
theorem pr_PS {s dp : Int} {C R C2 R2 : pj_G} {cs rs : List Int32} (h : pr_P s dp C R C2 R2 cs rs) : pr_S dp C2 R2 := by
  obtain ⟨⟨-, -, a1, a2, a3⟩, ⟨d, h1, h4⟩, ⟨n, r, e1, e2, e3, e4, -⟩, -, -, g1, g2⟩ := h
  exact ⟨d, h1, by omega, by omega, h4⟩
theorem pr_Pt {s s1 s2 dp dp' : Int} {C R C1 R1 C2 R2 : pj_G} {cs rs cs2 rs2 : List Int32} (h : pr_P s1 dp' C R C1 R1 cs rs) (g : pr_P s2 dp C1 R1 C2 R2 cs2 rs2) (hD : (pj_fi C 27 3).toInt + s ≤ (pj_fi C 2 3).toInt) (hl : (cs.length : Int) + (cs2.length : Int) + (pj_fi C 2 3).toInt ≤ (pj_fi C2 2 3).toInt + s) : pr_P s dp C R C2 R2 (cs ++ cs2) (rs ++ rs2) := by
  obtain ⟨⟨a1, a2, -, a4, a5⟩, -, e, o1, o2, g1, g2⟩ := h
  obtain ⟨-, d, e', p1, p2, l1, l2⟩ := g
  exact ⟨⟨a1, a2, hD, a4, a5⟩, d, pr_e_t e e', pr_ok_a o1 p1, pr_ok_a o2 p2, by rw [List.length_append]; omega, by rw [List.length_append]; omega⟩
def pr_wC (W : pj_KT) : Bool := W.1.all (fun q => !(pj_mF [(27, 2), (27, 3), (2, 2)] q.1 q.2)) && W.2.2.all (fun a => !(pj_mN [28, 29, 3] a))
def pr_wR (W : pj_KT) : Bool := W.1.all (fun q => !(pj_mF [(171, 27), (171, 18)] q.1 q.2)) && W.2.2.all (fun a => !(pj_mN [183, 180] a))
theorem pr_kC {W : pj_KT} {C C' : pj_G} (k : pj_kpt W C C') (w : pr_wC W = true) : pj_fi C' 27 3 = pj_fi C 27 3 ∧ (∀ j, pr_dr C' j = pr_dr C j) ∧ pj_fi C' 2 2 = pj_fi C 2 2 ∧ ∀ j, pj_ai C' 3 j = pj_ai C 3 j := by
  unfold pr_wC at w
  rw [Bool.and_eq_true] at w
  exact ⟨k.1 (27, 3) (mr_nF w.1 _ rfl), pr_drk (k.2.1.2 (27, 2) (mr_nF w.1 _ rfl)) (k.2.2 28 (mr_nA w.2 _ rfl)) (k.2.2 29 (mr_nA w.2 _ rfl)), k.1 (2, 2) (mr_nF w.1 _ rfl), k.2.2 3 (mr_nA w.2 _ rfl)⟩
theorem pr_kR {W : pj_KT} {R R' : pj_G} (k : pj_kpt W R R') (w : pr_wR W = true) : pj_fi R' 171 27 = pj_fi R 171 27 ∧ (∀ j, pj_ai R' 183 j = pj_ai R 183 j) ∧ pj_fi R' 171 18 = pj_fi R 171 18 ∧ ∀ j, pj_ai R' 180 j = pj_ai R 180 j := by
  unfold pr_wR at w
  rw [Bool.and_eq_true] at w
  exact ⟨k.1 (171, 27) (mr_nF w.1 _ rfl), k.2.2 183 (mr_nA w.2 _ rfl), k.1 (171, 18) (mr_nF w.1 _ rfl), k.2.2 180 (mr_nA w.2 _ rfl)⟩
/-- something is read, on both sides -/
theorem pr_Pm {s dp dp' : Int} {C R C2 R2 C3 R3 : pj_G} {cs rs : List Int32} (h : pr_P s dp C R C2 R2 cs rs) {W W' : pj_KT} (k : pj_kpt W C2 C3) (w : pr_wC W = true) (k' : pj_kpt W' R2 R3) (w' : pr_wR W' = true) (d : tx_RD C3 R3) (hn : (pj_fi R3 171 19).toInt = dp') (ha : (pj_fi R2 171 17).toInt ≤ (pj_fi R3 171 17).toInt) : pr_P s dp' C R C3 R3 cs rs := by
  obtain ⟨a, ⟨d0, h1, h4⟩, e, o1, o2, g1, g2⟩ := h
  obtain ⟨c1, c2, c3, -⟩ := pr_kC k w
  obtain ⟨r1, r2, r3, -⟩ := pr_kR k' w'
  have e0 := pr_e_t e (pr_e_0 d0.1 d0.2.1 c1 c2 r1 r2)
  rw [List.append_nil, List.append_nil] at e0
  have q1 := d0.2.2.2.1
  have q2 := d.2.2.2.1
  exact ⟨a, ⟨d, by rw [c3]; exact h1, hn⟩, e0, o1, o2, by omega, by omega⟩
theorem pr_RDc {C R : pj_G} (h : tx_RD C R) (sp : Int32) (rs : 0 ≤ sp.toInt ∧ sp.toInt ≤ 3255 ∧ (sp.toInt ≤ 1006 ∨ 2000 ≤ sp.toInt)) : tx_RD (F_60x C sp) R := by
  obtain ⟨i, k, -⟩ := fr_60x C h.1 sp rs
  have e3 : pj_fi (F_60x C sp) 2 3 = pj_fi C 2 3 := k.1 (2, 3) (by decide)
  have e4 : pj_fi (F_60x C sp) 2 4 = pj_fi C 2 4 := k.1 (2, 4) (by decide)
  obtain ⟨a1, a2, a3, a4, a5, a6, a7⟩ := id h
  exact tx_st h i a2 (k.1 (2, 2) (by decide)) (fun j => k.2.2 3 (by decide) j) rfl (fun _ => rfl) (by rw [e4]; exact a3) (by rw [e3]; exact a4) (by omega)
theorem pr_RDr {C R : pj_G} (h : tx_RD C R) (c : Int32) (p0 : -1 ≤ c.toInt ∧ c.toInt ≤ 3000 ∧ (c.toInt ≤ 1006 ∨ 2000 ≤ c.toInt)) (p1 : (pj_fi R 171 27).toInt ≤ 79) : tx_RD C (F_198x R c) ∧ pj_fi (F_198x R c) 171 17 = pj_fi R 171 17 ∧ pj_fi (F_198x R c) 171 19 = pj_fi R 171 19 := by
  obtain ⟨i, k, -⟩ := fr_198x R h.2.1 c p0 p1
  have e3 : pj_fi (F_198x R c) 171 17 = pj_fi R 171 17 := k.1 (171, 17) (by decide)
  have e4 : pj_fi (F_198x R c) 171 18 = pj_fi R 171 18 := k.1 (171, 18) (by decide)
  obtain ⟨a1, a2, a3, a4, a5, a6, a7⟩ := id h
  exact ⟨tx_st h a1 i rfl (fun _ => rfl) e4 (fun j => k.2.2 180 (by decide) j) a3 (by rw [e3]; exact a4) (by rw [e3]; omega), e3, k.1 (171, 19) (by decide)⟩
/-- a step is written, in the class .. -/
theorem pr_Pc {s dp : Int} {C R C2 R2 : pj_G} {cs rs : List Int32} (h : pr_P s dp C R C2 R2 cs rs) (sp : Int32) (hs : 0 ≤ sp.toInt ∧ sp.toInt ≤ 3255 ∧ (sp.toInt ≤ 1006 ∨ 2000 ≤ sp.toInt)) (hl : (cs.length : Int) + 1 + (pj_fi C 2 3).toInt ≤ (pj_fi C2 2 3).toInt + s) : pr_P s dp C R (F_60x C2 sp) R2 (cs ++ [sp]) rs := by
  obtain ⟨⟨i1, i2, a1, a2, a3⟩, ⟨d, h1, h4⟩, e, o1, o2, g1, g2⟩ := h
  obtain ⟨n, r, e1, e2, e3, e4, -⟩ := id e
  obtain ⟨i, k, -⟩ := fr_60x C2 d.1 sp hs
  have q := d.2.2.2.2.2.1
  have ee := pr_e_t e (pr_e_c (R := R2) d.1 d.2.1 sp hs (by omega))
  rw [List.append_nil] at ee
  refine ⟨⟨i1, i2, a1, a2, a3⟩, ⟨pr_RDc d sp hs, ?_, h4⟩, ee, pr_ok_a o1 (pr_ok_1 (by omega)), o2, ?_, g2⟩
  · rw [k.1 (2, 2) (by decide)]
    exact h1
  · have k3 : pj_fi (F_60x C2 sp) 2 3 = pj_fi C2 2 3 := k.1 (2, 3) (by decide)
    rw [List.length_append, k3]
    show ((cs.length + 1 : Nat) : Int) + _ ≤ _
    omega
/-- .. in the reference -/
theorem pr_Pr {s dp : Int} {C R C2 R2 : pj_G} {cs rs : List Int32} (h : pr_P s dp C R C2 R2 cs rs) (c : Int32) (p0 : -1 ≤ c.toInt ∧ c.toInt ≤ 3000 ∧ (c.toInt ≤ 1006 ∨ 2000 ≤ c.toInt)) (hl : (rs.length : Int) + 1 + (pj_fi R 171 17).toInt ≤ (pj_fi R2 171 17).toInt) : pr_P s dp C R C2 (F_198x R2 c) cs (rs ++ [c]) := by
  obtain ⟨⟨i1, i2, a1, a2, a3⟩, ⟨d, h1, h4⟩, e, o1, o2, g1, g2⟩ := h
  obtain ⟨n, r, e1, e2, e3, e4, -⟩ := id e
  have q := d.2.2.2
  have p1 : (pj_fi R2 171 27).toInt ≤ 79 := by omega
  obtain ⟨d', e17, e19⟩ := pr_RDr d c p0 p1
  have ee := pr_e_t e (pr_e_r (C := C2) d.1 d.2.1 c p0 p1)
  rw [List.append_nil] at ee
  refine ⟨⟨i1, i2, a1, a2, a3⟩, ⟨d', h1, by rw [e19]; exact h4⟩, ee, o1, pr_ok_a o2 (pr_ok_1 (by omega)), g1, ?_⟩
  rw [List.length_append, e17]
  show ((rs.length + 1 : Nat) : Int) + _ ≤ _
  omega
/-- nothing is taken by the class .. -/
theorem pr_sC {C R C' : pj_G} (h : tx_RD C R) {W : pj_KT} (i : pj_Inv C') (k : pj_kpt W C C') (w : pr_wC W = true) (e4 : (pj_fi C' 2 4).toInt = (pj_fi C 2 4).toInt) (e3 : (pj_fi C' 2 3).toInt = (pj_fi C 2 3).toInt) : tx_RD C' R := by
  obtain ⟨-, -, c3, c4⟩ := pr_kC k w
  obtain ⟨a1, a2, a3, a4, a5, a6, a7⟩ := id h
  exact tx_st h i a2 c3 c4 rfl (fun _ => rfl) (by omega) (by omega) (by omega)
/-- .. by the reference -/
theorem pr_sR {C R R' : pj_G} (h : tx_RD C R) {W : pj_KT} (i : pj_Inv R') (k : pj_kpt W R R') (w : pr_wR W = true) (e3 : (pj_fi R' 171 17).toInt = (pj_fi R 171 17).toInt) : tx_RD C R' := by
  obtain ⟨-, -, c3, c4⟩ := pr_kR k w
  obtain ⟨a1, a2, a3, a4, a5, a6, a7⟩ := id h
  exact tx_st h a1 i rfl (fun _ => rfl) c3 c4 a3 (by omega) (by omega)
/-- one sign is taken by both -/
theorem pr_sB {C R C' R' : pj_G} (h : tx_RD C R) {W W' : pj_KT} (i : pj_Inv C') (k : pj_kpt W C C') (w : pr_wC W = true) (i' : pj_Inv R') (k' : pj_kpt W' R R') (w' : pr_wR W' = true) (e4 : (pj_fi C' 2 4).toInt = (pj_fi C 2 4).toInt) (e3 : (pj_fi C' 2 3).toInt = (pj_fi C 2 3).toInt + 1) (f3 : (pj_fi R' 171 17).toInt = (pj_fi R 171 17).toInt + 1) (hl : (pj_fi R 171 17).toInt < (pj_fi R 171 18).toInt) : tx_RD C' R' := by
  obtain ⟨-, -, c3, c4⟩ := pr_kC k w
  obtain ⟨-, -, d3, d4⟩ := pr_kR k' w'
  obtain ⟨a1, a2, a3, a4, a5, a6, a7⟩ := id h
  exact tx_st h i i' c3 c4 d3 d4 (by omega) (by omega) (by omega)
/-- the sign can't stand -/
theorem pr_E {C R C' R' : pj_G} (h : tx_RD C R) (i : pj_Inv C') (i' : pj_Inv R') (c2 : (pj_fi C' 2 2).toInt = (pj_fi C 2 2).toInt) (c4 : (pj_fi C' 2 4).toInt = (pj_fi C 2 3).toInt) (r3 : (pj_fi R' 171 17).toInt = (pj_fi R 171 17).toInt) (r2 : (pj_fi R' 171 18).toInt = (pj_fi R 171 18).toInt) : tx_ER C' R' := by
  obtain ⟨a1, a2, a3, a4, a5, a6, a7⟩ := h
  exact ⟨i, i', by omega, by omega, by omega⟩
noncomputable def pr_T (rr : Nat → Int32 → pj_G → Int32 × pj_G) (G10 : pj_G) : Int32 × pj_G := pj_nm (F_184x G10) (fun y23 => cond (pj_c1 .eq y23 0) (pj_bd (F_186_s11x G10) (fun y29 G30 => cond (pj_c1 .lt y29 0) (pj_nm (pj_fi G30 171 19) (fun y37 => cond (pj_c1 .eq y37 (Int32.ofInt 4)) ((Int32.ofInt 0, G30)) (pj_bd (F_183x G30 ((Int8.ofInt 40).toInt32)) (fun y48 G49 => cond (pj_c1 .ne y48 0) (pj_nm (pj_fi G49 171 19) (fun y56 => pj_nm (y56 + (Int32.ofInt 1)) (fun z58 => pj_nm (pj_wv G49 171 19 (.int z58)) (fun G59 => pj_bd (rr 1 (Int32.ofInt 0) G59) (fun y64 G65 => cond (pj_c1 .eq y64 0) ((Int32.ofInt 0, G65)) (pj_bd (F_183x G65 ((Int8.ofInt 41).toInt32)) (fun y80 G81 => cond (pj_c1 .ne y80 0) (pj_nm (pj_fi G81 171 19) (fun y88 => pj_nm (y88 - (Int32.ofInt 1)) (fun z90 => pj_nm (pj_wv G81 171 19 (.int z90)) (fun G91 => (Int32.ofInt 1, G91))))) ((Int32.ofInt 0, G81))))))))) ((Int32.ofInt 0, G49)))))) (pj_nm (((Int16.ofInt 1000).toInt32) + y29) (fun z104 => pj_nm (F_198x G30 z104) (fun G110 => (Int32.ofInt 1, G110)))))) (pj_bd (F_187ex G10 (Int32.ofInt 3)) (fun y127 G128 => pj_nm (F_198x G128 y127) (fun G141 => (Int32.ofInt 1, G141)))))
theorem pr_199 (rr : Nat → Int32 → pj_G → Int32 × pj_G) (G0 : pj_G) : F_199x rr G0 = cond (pj_c1 .eq (F_183x G0 ((Int8.ofInt 45).toInt32)).1 0) (pr_T rr (F_183x G0 ((Int8.ofInt 45).toInt32)).2) (pj_bd (rr 0 0 (F_183x G0 ((Int8.ofInt 45).toInt32)).2) (fun y158 G159 => pj_nm (F_198x G159 ((Int16.ofInt 3000).toInt32)) (fun G170 => (y158, G170)))) := by
  unfold pr_T
  rw [F_199x_e, pj_bd_x]
theorem pr_op5 {C R : pj_G} (h : tx_RD C R) : tx_RD (F_84_s5x C).2 (F_186_s12x R).2 ∧ ((mr_op (F_84_s5x C).1.toInt ((F_186_s12x R).1.toInt + 0) ∧ 0 ≤ (F_186_s12x R).1.toInt ∧ (pj_fi ((F_186_s12x R).2) 171 17).toInt = (pj_fi R 171 17).toInt + 1) ∨ ((F_84_s5x C).1.toInt = -1 ∧ (F_186_s12x R).1.toInt = -1 ∧ (pj_fi ((F_186_s12x R).2) 171 17).toInt = (pj_fi R 171 17).toInt)) := by
  obtain ⟨i, k, rg, c0, c1, c2, cn, cb⟩ := fr_84_s5x C h.1
  obtain ⟨i', k', rg', -, d0, d1, d2, dn⟩ := fr_186_s12x R h.2.1
  have cur := tx_cur h
  obtain ⟨a1, a2, a3, a4, a5, a6, a7⟩ := id h
  by_cases ql : (pj_fi R 171 17).toInt < (pj_fi R 171 18).toInt
  · have cur := cur ql
    by_cases q0 : (pj_ai R 180 (pj_fi R 171 17).toInt.toNat).toInt = 60
    · obtain ⟨x1, x2⟩ := c0 ⟨⟨a3, by omega⟩, by omega⟩
      obtain ⟨y1, y2⟩ := d0 ⟨ql, q0⟩
      exact ⟨pr_sB h i k rfl i' k' rfl cb x2 y2 ql, .inl ⟨by unfold mr_op; omega, by omega, y2⟩⟩
    · skip
      by_cases q1 : (pj_ai R 180 (pj_fi R 171 17).toInt.toNat).toInt = 62
      · obtain ⟨x1, x2⟩ := c1 ⟨⟨a3, by omega⟩, by omega⟩
        obtain ⟨y1, y2⟩ := d1 ⟨ql, q1⟩
        exact ⟨pr_sB h i k rfl i' k' rfl cb x2 y2 ql, .inl ⟨by unfold mr_op; omega, by omega, y2⟩⟩
      · skip
        by_cases q2 : (pj_ai R 180 (pj_fi R 171 17).toInt.toNat).toInt = 61
        · obtain ⟨x1, x2⟩ := c2 ⟨⟨a3, by omega⟩, by omega⟩
          obtain ⟨y1, y2⟩ := d2 ⟨ql, q2⟩
          exact ⟨pr_sB h i k rfl i' k' rfl cb x2 y2 ql, .inl ⟨by unfold mr_op; omega, by omega, y2⟩⟩
        · skip
          obtain ⟨x1, x2⟩ := cn (by rintro ⟨-, z⟩; omega)
          obtain ⟨y1, y2⟩ := dn (by rintro ⟨-, z⟩; omega)
          exact ⟨pr_sR (pr_sC h i k rfl cb x2) i' k' rfl y2, .inr ⟨x1, y1, y2⟩⟩
  · obtain ⟨x1, x2⟩ := cn (by rintro ⟨⟨-, z⟩, -⟩; omega)
    obtain ⟨y1, y2⟩ := dn (by rintro ⟨z, -⟩; exact ql z)
    exact ⟨pr_sR (pr_sC h i k rfl cb x2) i' k' rfl y2, .inr ⟨x1, y1, y2⟩⟩
theorem pr_op6 {C R : pj_G} (h : tx_RD C R) : tx_RD (F_84_s6x C).2 (F_186_s13x R).2 ∧ ((mr_op (F_84_s6x C).1.toInt ((F_186_s13x R).1.toInt + 3) ∧ 0 ≤ (F_186_s13x R).1.toInt ∧ (pj_fi ((F_186_s13x R).2) 171 17).toInt = (pj_fi R 171 17).toInt + 1) ∨ ((F_84_s6x C).1.toInt = -1 ∧ (F_186_s13x R).1.toInt = -1 ∧ (pj_fi ((F_186_s13x R).2) 171 17).toInt = (pj_fi R 171 17).toInt)) := by
  obtain ⟨i, k, rg, c0, c1, cn, cb⟩ := fr_84_s6x C h.1
  obtain ⟨i', k', rg', -, d0, d1, dn⟩ := fr_186_s13x R h.2.1
  have cur := tx_cur h
  obtain ⟨a1, a2, a3, a4, a5, a6, a7⟩ := id h
  by_cases ql : (pj_fi R 171 17).toInt < (pj_fi R 171 18).toInt
  · have cur := cur ql
    by_cases q0 : (pj_ai R 180 (pj_fi R 171 17).toInt.toNat).toInt = 43
    · obtain ⟨x1, x2⟩ := c0 ⟨⟨a3, by omega⟩, by omega⟩
      obtain ⟨y1, y2⟩ := d0 ⟨ql, q0⟩
      exact ⟨pr_sB h i k rfl i' k' rfl cb x2 y2 ql, .inl ⟨by unfold mr_op; omega, by omega, y2⟩⟩
    · skip
      by_cases q1 : (pj_ai R 180 (pj_fi R 171 17).toInt.toNat).toInt = 45
      · obtain ⟨x1, x2⟩ := c1 ⟨⟨a3, by omega⟩, by omega⟩
        obtain ⟨y1, y2⟩ := d1 ⟨ql, q1⟩
        exact ⟨pr_sB h i k rfl i' k' rfl cb x2 y2 ql, .inl ⟨by unfold mr_op; omega, by omega, y2⟩⟩
      · skip
        obtain ⟨x1, x2⟩ := cn (by rintro ⟨-, z⟩; omega)
        obtain ⟨y1, y2⟩ := dn (by rintro ⟨-, z⟩; omega)
        exact ⟨pr_sR (pr_sC h i k rfl cb x2) i' k' rfl y2, .inr ⟨x1, y1, y2⟩⟩
  · obtain ⟨x1, x2⟩ := cn (by rintro ⟨⟨-, z⟩, -⟩; omega)
    obtain ⟨y1, y2⟩ := dn (by rintro ⟨z, -⟩; exact ql z)
    exact ⟨pr_sR (pr_sC h i k rfl cb x2) i' k' rfl y2, .inr ⟨x1, y1, y2⟩⟩
theorem pr_op7 {C R : pj_G} (h : tx_RD C R) : tx_RD (F_84_s7x C).2 (F_186_s14x R).2 ∧ ((mr_op (F_84_s7x C).1.toInt ((F_186_s14x R).1.toInt + 5) ∧ 0 ≤ (F_186_s14x R).1.toInt ∧ (pj_fi ((F_186_s14x R).2) 171 17).toInt = (pj_fi R 171 17).toInt + 1) ∨ ((F_84_s7x C).1.toInt = -1 ∧ (F_186_s14x R).1.toInt = -1 ∧ (pj_fi ((F_186_s14x R).2) 171 17).toInt = (pj_fi R 171 17).toInt)) := by
  obtain ⟨i, k, rg, c0, c1, cn, cb⟩ := fr_84_s7x C h.1
  obtain ⟨i', k', rg', -, d0, d1, dn⟩ := fr_186_s14x R h.2.1
  have cur := tx_cur h
  obtain ⟨a1, a2, a3, a4, a5, a6, a7⟩ := id h
  by_cases ql : (pj_fi R 171 17).toInt < (pj_fi R 171 18).toInt
  · have cur := cur ql
    by_cases q0 : (pj_ai R 180 (pj_fi R 171 17).toInt.toNat).toInt = 42
    · obtain ⟨x1, x2⟩ := c0 ⟨⟨a3, by omega⟩, by omega⟩
      obtain ⟨y1, y2⟩ := d0 ⟨ql, q0⟩
      exact ⟨pr_sB h i k rfl i' k' rfl cb x2 y2 ql, .inl ⟨by unfold mr_op; omega, by omega, y2⟩⟩
    · skip
      by_cases q1 : (pj_ai R 180 (pj_fi R 171 17).toInt.toNat).toInt = 47
      · obtain ⟨x1, x2⟩ := c1 ⟨⟨a3, by omega⟩, by omega⟩
        obtain ⟨y1, y2⟩ := d1 ⟨ql, q1⟩
        exact ⟨pr_sB h i k rfl i' k' rfl cb x2 y2 ql, .inl ⟨by unfold mr_op; omega, by omega, y2⟩⟩
      · skip
        obtain ⟨x1, x2⟩ := cn (by rintro ⟨-, z⟩; omega)
        obtain ⟨y1, y2⟩ := dn (by rintro ⟨-, z⟩; omega)
        exact ⟨pr_sR (pr_sC h i k rfl cb x2) i' k' rfl y2, .inr ⟨x1, y1, y2⟩⟩
  · obtain ⟨x1, x2⟩ := cn (by rintro ⟨⟨-, z⟩, -⟩; omega)
    obtain ⟨y1, y2⟩ := dn (by rintro ⟨z, -⟩; exact ql z)
    exact ⟨pr_sR (pr_sC h i k rfl cb x2) i' k' rfl y2, .inr ⟨x1, y1, y2⟩⟩
theorem pr_ix (G : pj_G) (z : Int32) : (z.toInt = 100 → F_291_s8x G z = Int32.ofInt 0) ∧ (z.toInt = 117 → F_291_s8x G z = Int32.ofInt 1) ∧ (z.toInt = 108 → F_291_s8x G z = Int32.ofInt 2) ∧ (z.toInt = 115 → F_291_s8x G z = Int32.ofInt 3) ∧ (z.toInt = 119 → F_291_s8x G z = Int32.ofInt 4) ∧ (z.toInt = 98 → F_291_s8x G z = Int32.ofInt 5) ∧ (z.toInt = 110 → F_291_s8x G z = Int32.ofInt 6) := by
  refine ⟨?_, ?_, ?_, ?_, ?_, ?_, ?_⟩
  · intro e
    have ez : z = Int32.ofInt 100 := Int32.toInt_inj.mp (by rw [e]; decide)
    rw [ez, F_291_s8x_e]
    decide +kernel
  · intro e
    have ez : z = Int32.ofInt 117 := Int32.toInt_inj.mp (by rw [e]; decide)
    rw [ez, F_291_s8x_e]
    decide +kernel
  · intro e
    have ez : z = Int32.ofInt 108 := Int32.toInt_inj.mp (by rw [e]; decide)
    rw [ez, F_291_s8x_e]
    decide +kernel
  · intro e
    have ez : z = Int32.ofInt 115 := Int32.toInt_inj.mp (by rw [e]; decide)
    rw [ez, F_291_s8x_e]
    decide +kernel
  · intro e
    have ez : z = Int32.ofInt 119 := Int32.toInt_inj.mp (by rw [e]; decide)
    rw [ez, F_291_s8x_e]
    decide +kernel
  · intro e
    have ez : z = Int32.ofInt 98 := Int32.toInt_inj.mp (by rw [e]; decide)
    rw [ez, F_291_s8x_e]
    decide +kernel
  · intro e
    have ez : z = Int32.ofInt 110 := Int32.toInt_inj.mp (by rw [e]; decide)
    rw [ez, F_291_s8x_e]
    decide +kernel
theorem pr_nm {C R : pj_G} (h : tx_RD C R) : tx_RD (F_84_s8x C).2 (F_186_s11x R).2 ∧ ((0 ≤ (F_186_s11x R).1.toInt ∧ (F_186_s11x R).1.toInt ≤ 6 ∧ ¬ (F_84_s8x C).1.toInt = -1 ∧ (∀ G : pj_G, F_291_s8x G (((F_84_s8x C).1.toUInt32 % 65536).toInt32) = (F_186_s11x R).1) ∧ (pj_fi ((F_186_s11x R).2) 171 17).toInt = (pj_fi R 171 17).toInt + 1 ∧ (pj_fi R 171 17).toInt < (pj_fi R 171 18).toInt ∧ ¬ (pj_ai R 180 (pj_fi R 171 17).toInt.toNat).toInt = 40) ∨ ((F_84_s8x C).1.toInt = -1 ∧ (F_186_s11x R).1.toInt = -1 ∧ (pj_fi ((F_186_s11x R).2) 171 17).toInt = (pj_fi R 171 17).toInt)) := by
  obtain ⟨i, k, rg, c0, c1, c2, c3, c4, c5, c6, cn, cb⟩ := fr_84_s8x C h.1
  obtain ⟨i', k', rg', -, d0, d1, d2, d3, d4, d5, d6, dn⟩ := fr_186_s11x R h.2.1
  have cur := tx_cur h
  obtain ⟨a1, a2, a3, a4, a5, a6, a7⟩ := id h
  by_cases ql : (pj_fi R 171 17).toInt < (pj_fi R 171 18).toInt
  · have cur := cur ql
    by_cases q0 : (pj_ai R 180 (pj_fi R 171 17).toInt.toNat).toInt = 100
    · obtain ⟨x1, x2⟩ := c0 ⟨⟨a3, by omega⟩, by omega⟩
      obtain ⟨y1, y2⟩ := d0 ⟨ql, q0⟩
      exact ⟨pr_sB h i k rfl i' k' rfl cb x2 y2 ql, .inl ⟨by omega, by omega, by omega, fun G => ((pr_ix G _).1 (by rw [pj_i2cI (by omega) (by omega)]; exact x1)).trans (Int32.toInt_inj.mp (show (Int32.ofInt 0).toInt = _ by rw [y1]; decide)), y2, ql, by omega⟩⟩
    · skip
      by_cases q1 : (pj_ai R 180 (pj_fi R 171 17).toInt.toNat).toInt = 117
      · obtain ⟨x1, x2⟩ := c1 ⟨⟨a3, by omega⟩, by omega⟩
        obtain ⟨y1, y2⟩ := d1 ⟨ql, q1⟩
        exact ⟨pr_sB h i k rfl i' k' rfl cb x2 y2 ql, .inl ⟨by omega, by omega, by omega, fun G => ((pr_ix G _).2.1 (by rw [pj_i2cI (by omega) (by omega)]; exact x1)).trans (Int32.toInt_inj.mp (show (Int32.ofInt 1).toInt = _ by rw [y1]; decide)), y2, ql, by omega⟩⟩
      · skip
        by_cases q2 : (pj_ai R 180 (pj_fi R 171 17).toInt.toNat).toInt = 108
        · obtain ⟨x1, x2⟩ := c2 ⟨⟨a3, by omega⟩, by omega⟩
          obtain ⟨y1, y2⟩ := d2 ⟨ql, q2⟩
          exact ⟨pr_sB h i k rfl i' k' rfl cb x2 y2 ql, .inl ⟨by omega, by omega, by omega, fun G => ((pr_ix G _).2.2.1 (by rw [pj_i2cI (by omega) (by omega)]; exact x1)).trans (Int32.toInt_inj.mp (show (Int32.ofInt 2).toInt = _ by rw [y1]; decide)), y2, ql, by omega⟩⟩
        · skip
          by_cases q3 : (pj_ai R 180 (pj_fi R 171 17).toInt.toNat).toInt = 115
          · obtain ⟨x1, x2⟩ := c3 ⟨⟨a3, by omega⟩, by omega⟩
            obtain ⟨y1, y2⟩ := d3 ⟨ql, q3⟩
            exact ⟨pr_sB h i k rfl i' k' rfl cb x2 y2 ql, .inl ⟨by omega, by omega, by omega, fun G => ((pr_ix G _).2.2.2.1 (by rw [pj_i2cI (by omega) (by omega)]; exact x1)).trans (Int32.toInt_inj.mp (show (Int32.ofInt 3).toInt = _ by rw [y1]; decide)), y2, ql, by omega⟩⟩
          · skip
            by_cases q4 : (pj_ai R 180 (pj_fi R 171 17).toInt.toNat).toInt = 119
            · obtain ⟨x1, x2⟩ := c4 ⟨⟨a3, by omega⟩, by omega⟩
              obtain ⟨y1, y2⟩ := d4 ⟨ql, q4⟩
              exact ⟨pr_sB h i k rfl i' k' rfl cb x2 y2 ql, .inl ⟨by omega, by omega, by omega, fun G => ((pr_ix G _).2.2.2.2.1 (by rw [pj_i2cI (by omega) (by omega)]; exact x1)).trans (Int32.toInt_inj.mp (show (Int32.ofInt 4).toInt = _ by rw [y1]; decide)), y2, ql, by omega⟩⟩
            · skip
              by_cases q5 : (pj_ai R 180 (pj_fi R 171 17).toInt.toNat).toInt = 98
              · obtain ⟨x1, x2⟩ := c5 ⟨⟨a3, by omega⟩, by omega⟩
                obtain ⟨y1, y2⟩ := d5 ⟨ql, q5⟩
                exact ⟨pr_sB h i k rfl i' k' rfl cb x2 y2 ql, .inl ⟨by omega, by omega, by omega, fun G => ((pr_ix G _).2.2.2.2.2.1 (by rw [pj_i2cI (by omega) (by omega)]; exact x1)).trans (Int32.toInt_inj.mp (show (Int32.ofInt 5).toInt = _ by rw [y1]; decide)), y2, ql, by omega⟩⟩
              · skip
                by_cases q6 : (pj_ai R 180 (pj_fi R 171 17).toInt.toNat).toInt = 110
                · obtain ⟨x1, x2⟩ := c6 ⟨⟨a3, by omega⟩, by omega⟩
                  obtain ⟨y1, y2⟩ := d6 ⟨ql, q6⟩
                  exact ⟨pr_sB h i k rfl i' k' rfl cb x2 y2 ql, .inl ⟨by omega, by omega, by omega, fun G => ((pr_ix G _).2.2.2.2.2.2 (by rw [pj_i2cI (by omega) (by omega)]; exact x1)).trans (Int32.toInt_inj.mp (show (Int32.ofInt 6).toInt = _ by rw [y1]; decide)), y2, ql, by omega⟩⟩
                · skip
                  obtain ⟨x1, x2⟩ := cn (by rintro ⟨-, z⟩; omega)
                  obtain ⟨y1, y2⟩ := dn (by rintro ⟨-, z⟩; omega)
                  exact ⟨pr_sR (pr_sC h i k rfl cb x2) i' k' rfl y2, .inr ⟨x1, y1, y2⟩⟩
  · obtain ⟨x1, x2⟩ := cn (by rintro ⟨⟨-, z⟩, -⟩; omega)
    obtain ⟨y1, y2⟩ := dn (by rintro ⟨z, -⟩; exact ql z)
    exact ⟨pr_sR (pr_sC h i k rfl cb x2) i' k' rfl y2, .inr ⟨x1, y1, y2⟩⟩
theorem pr_fT (n : Nat) {G : pj_G} (iG : pj_Inv G) (h1 : (pj_fi G 171 27).toInt ≤ (pj_fi G 171 17).toInt) (h2 : (pj_fi G 171 17).toInt ≤ (pj_fi G 171 18).toInt) (h3 : 5 * ((pj_fi G 171 18).toInt - (pj_fi G 171 17).toInt) < (n : Int)) : pj_Inv (RRx n 0 0 G).2 ∧ pj_kpt pj_MY G (RRx n 0 0 G).2 ∧ (pj_fi G 171 17).toInt ≤ (pj_fi ((RRx n 0 0 G).2) 171 17).toInt ∧ (pj_fi ((RRx n 0 0 G).2) 171 17).toInt ≤ (pj_fi ((RRx n 0 0 G).2) 171 18).toInt ∧ (pj_fi ((RRx n 0 0 G).2) 171 27).toInt + (pj_fi G 171 17).toInt ≤ (pj_fi G 171 27).toInt + (pj_fi ((RRx n 0 0 G).2) 171 17).toInt := by
  obtain ⟨v, G', -, y, -, i, k, -, e, eq⟩ := (pj_ihx_all n).1 G iG h1 h2 h3
  have e := e G rfl
  rw [← eq]
  exact ⟨i, k, e.1.1, e.1.2.1, e.1.2.2.1⟩
theorem pr_fR (n : Nat) {G : pj_G} (iG : pj_Inv G) (rk : Int32) (hrk : 0 ≤ rk.toInt ∧ rk.toInt ≤ 3) (h1 : (pj_fi G 171 27).toInt ≤ (pj_fi G 171 17).toInt) (h2 : (pj_fi G 171 17).toInt ≤ (pj_fi G 171 18).toInt) (h3 : 5 * ((pj_fi G 171 18).toInt - (pj_fi G 171 17).toInt) + 4 - rk.toInt < (n : Int)) : pj_Inv (RRx n 1 rk G).2 ∧ pj_fi (RRx n 1 rk G).2 171 18 = pj_fi G 171 18 := by
  obtain ⟨v, G', -, y, -, i, k, -, e, eq⟩ := (pj_ihx_all n).2 G rk iG hrk h1 h2 h3
  rw [← eq]
  exact ⟨i, k.1 (171, 18) (by decide)⟩
