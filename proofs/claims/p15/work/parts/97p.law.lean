/-! THE LAW UP TO ITS LOOP -/
def pj_i0 : pj_T := (([], true), 0, [(0, .ref 0)], [], 0, 0)
noncomputable def pj_t0 : pj_T := match pj_to (pj_exec pj_prog pj_nat 20000 40) 0 pj_x0 pj_law 23 40 pj_i0 with
  | some t => t
  | none => (([], true), 0, [], [], 0, 0)
set_option maxRecDepth 100000 in
theorem pj_t0_some : (pj_to (pj_exec pj_prog pj_nat 20000 40) 0 pj_x0 pj_law 23 40 pj_i0).isSome = true := by decide +kernel
theorem pj_t0_is : pj_to (pj_exec pj_prog pj_nat 20000 40) 0 pj_x0 pj_law 23 40 pj_i0 = some pj_t0 := by
  obtain ⟨t, ht⟩ := Option.isSome_iff_exists.mp pj_t0_some
  unfold pj_t0
  rw [ht]
theorem pj_sub_lz {f g : Nat} (hfg : f ≤ g) : ∀ {d : Nat}, d ≤ 1000 → pj_sub (pj_exec pj_prog pj_nat f d) (pj_lz g)
  | 0, _ => fun mi vs G r h => by cases (show (none : pj_V) = some r from h)
  | d + 1, hd => fun mi vs G r h => by
    obtain ⟨M, hM, -⟩ := pj_exec_s h
    have h1 := (List.getElem?_eq_some_iff.mp hM).1
    have h2 := pj_prog_len
    rw [pj_lz_lo (by omega)]
    exact pj_exec_le hfg (d + 1) 1000 hd _ _ _ _ h
theorem pj_t0_lz {g : Nat} (hg : 20000 ≤ g) (n0 : Nat) (xs : Nat → Int32) : pj_to (pj_lz g) n0 xs pj_law 23 40 pj_i0 = some pj_t0 :=
  pj_to_le (pj_sub_lz hg (by decide)) (Or.inr rfl) 40 40 _ _ (Nat.le_refl _) pj_t0_is
/-- the invariant, as it can be looked up -/
def pj_ck1 (G : pj_G) : Bool := pj_rgf.all (fun q => decide (q.2.2.1 ≤ (pj_fi G q.1 q.2.1).toInt) && decide ((pj_fi G q.1 q.2.1).toInt ≤ q.2.2.2))
def pj_ck2 (G : pj_G) : Bool := pj_rga.all (fun q => (List.range q.2.1).all (fun j => decide (q.2.2.1 ≤ (pj_ai G q.1 j).toInt) && (decide ((pj_ai G q.1 j).toInt ≤ q.2.2.2.1) && (decide ((pj_ai G q.1 j).toInt ≤ q.2.2.2.2.1) || decide (q.2.2.2.2.2 ≤ (pj_ai G q.1 j).toInt)))))
def pj_ck3 (G : pj_G) : Bool := pj_rgc.all (fun q => (List.range q.2).all (fun j => decide ((pj_ai G q.1 j).toInt = 0)))
theorem pj_ck_s {G : pj_G} (h0 : pj_coks pj_tb G.1 = true) (h1 : pj_ck1 G = true) (h2 : pj_ck2 G = true) (h3 : pj_ck3 G = true) : pj_Inv G := by
  refine ⟨h0, fun a k q hq => ?_, fun a q hq j hj => ?_, fun a n hn j hj => ?_⟩
  · unfold pj_rl at hq
    obtain ⟨p, h4, h5⟩ := pj_map hq
    have h6 := List.find?_some h4
    rw [Bool.and_eq_true] at h6
    have e1 := Nat.eq_of_beq_eq_true h6.1
    have e2 := Nat.eq_of_beq_eq_true h6.2
    have h7 := List.all_eq_true.mp h1 p (List.mem_of_find?_eq_some h4)
    rw [Bool.and_eq_true] at h7
    rw [← h5, ← e1, ← e2]
    exact ⟨of_decide_eq_true h7.1, of_decide_eq_true h7.2⟩
  · unfold pj_ra at hq
    obtain ⟨p, h4, h5⟩ := pj_map hq
    have h6 := List.find?_some h4
    have e1 := Nat.eq_of_beq_eq_true h6
    have h7 := List.all_eq_true.mp h2 p (List.mem_of_find?_eq_some h4)
    rw [← h5] at hj ⊢
    have h8 := List.all_eq_true.mp h7 j (List.mem_range.mpr hj)
    rw [Bool.and_eq_true, Bool.and_eq_true, Bool.or_eq_true] at h8
    rw [← e1]
    exact ⟨of_decide_eq_true h8.1, of_decide_eq_true h8.2.1, h8.2.2.elim (fun z => Or.inl (of_decide_eq_true z)) (fun z => Or.inr (of_decide_eq_true z))⟩
  · unfold pj_rc at hn
    obtain ⟨p, h4, h5⟩ := pj_map hn
    have h6 := List.find?_some h4
    have e1 := Nat.eq_of_beq_eq_true h6
    have h7 := List.all_eq_true.mp h3 p (List.mem_of_find?_eq_some h4)
    rw [← h5] at hj
    have h8 := of_decide_eq_true (List.all_eq_true.mp h7 j (List.mem_range.mpr hj))
    rw [← e1]
    unfold pj_cl
    rw [h8]
    exact ⟨fun _ => ⟨fun _ => by decide, fun _ => by decide⟩, fun _ => by decide⟩
set_option maxRecDepth 100000 in
theorem pj_t0_all : (pj_t0.2.1 = 23 ∧ pj_t0.2.2.1 = [(4, .int 0), (3, .ref 203), (2, .ref 171), (1, .ref 1), (0, .ref 0)] ∧ pj_t0.2.2.2.1 = [] ∧ pj_t0.2.2.2.2.1 ≤ 1000 ∧ pj_t0.2.2.2.2.2 ≤ 100000) ∧ (pj_coks pj_tb pj_t0.1.1 = true) ∧ (pj_ck1 pj_t0.1 = true) ∧ (pj_ck2 pj_t0.1 = true) ∧ (pj_ck3 pj_t0.1 = true) ∧ ((pj_fi pj_t0.1 171 4).toInt = 0 ∧ (pj_fi pj_t0.1 171 26).toInt = 0 ∧ (pj_fi pj_t0.1 171 30).toInt = 0) ∧ ((pj_fi pj_t0.1 2 1).toInt = 0 ∧ (pj_fi pj_t0.1 171 16).toInt = 0 ∧ (pj_fi pj_t0.1 21 0).toInt = 0 ∧ (pj_fi pj_t0.1 21 5).toInt = 0 ∧ (pj_fi pj_t0.1 171 5).toInt = 0 ∧ (pj_fi pj_t0.1 171 6).toInt = 0 ∧ (pj_fi pj_t0.1 53 2).toInt = 0 ∧ (pj_fi pj_t0.1 171 4).toInt = 0) ∧ (pj_rb pj_t0.1 6 0 7 = true ∧ pj_rb pj_t0.1 6 1 14 = true ∧ pj_fi pj_t0.1 7 0 = pj_fi pj_t0.1 171 3 ∧ pj_fi pj_t0.1 7 1 = pj_fi pj_t0.1 171 4) ∧ (pj_fi pj_t0.1 21 7 = pj_ai pj_t0.1 179 30 ∧ (pj_ai pj_t0.1 179 30).toInt = 0 ∧ (pj_fi pj_t0.1 171 30).toInt = 0 ∧ (pj_fi pj_t0.1 27 1).toInt = 0 ∧ (pj_fi pj_t0.1 171 26).toInt = 0 ∧ pj_rb pj_t0.1 27 0 28 = (!pj_rb pj_t0.1 27 2 28)) ∧ ((pj_fi pj_t0.1 171 7).toInt = 0 ∧ ∀ i, i < 3 → (pj_ai pj_t0.1 56 i).toInt = 0 ∧ (pj_ai pj_t0.1 200 i).toInt = 0) := by decide +kernel
theorem pj_t0_facts : pj_t0.2.1 = 23 ∧ pj_t0.2.2.1 = [(4, .int 0), (3, .ref 203), (2, .ref 171), (1, .ref 1), (0, .ref 0)] ∧ pj_t0.2.2.2.1 = [] ∧ pj_t0.2.2.2.2.1 ≤ 1000 ∧ pj_t0.2.2.2.2.2 ≤ 100000 := pj_t0_all.1
theorem pj_t0_c0 : pj_coks pj_tb pj_t0.1.1 = true := pj_t0_all.2.1
theorem pj_t0_c1 : pj_ck1 pj_t0.1 = true := pj_t0_all.2.2.1
theorem pj_t0_c2 : pj_ck2 pj_t0.1 = true := pj_t0_all.2.2.2.1
theorem pj_t0_c3 : pj_ck3 pj_t0.1 = true := pj_t0_all.2.2.2.2.1
theorem pj_t0_f : (pj_fi pj_t0.1 171 4).toInt = 0 ∧ (pj_fi pj_t0.1 171 26).toInt = 0 ∧ (pj_fi pj_t0.1 171 30).toInt = 0 := pj_t0_all.2.2.2.2.2.1
theorem pj_t0_q1 : (pj_fi pj_t0.1 2 1).toInt = 0 ∧ (pj_fi pj_t0.1 171 16).toInt = 0 ∧ (pj_fi pj_t0.1 21 0).toInt = 0 ∧ (pj_fi pj_t0.1 21 5).toInt = 0 ∧ (pj_fi pj_t0.1 171 5).toInt = 0 ∧ (pj_fi pj_t0.1 171 6).toInt = 0 ∧ (pj_fi pj_t0.1 53 2).toInt = 0 ∧ (pj_fi pj_t0.1 171 4).toInt = 0 := pj_t0_all.2.2.2.2.2.2.1
theorem pj_t0_q2 : pj_rb pj_t0.1 6 0 7 = true ∧ pj_rb pj_t0.1 6 1 14 = true ∧ pj_fi pj_t0.1 7 0 = pj_fi pj_t0.1 171 3 ∧ pj_fi pj_t0.1 7 1 = pj_fi pj_t0.1 171 4 := pj_t0_all.2.2.2.2.2.2.2.1
theorem pj_t0_q4 : pj_fi pj_t0.1 21 7 = pj_ai pj_t0.1 179 30 ∧ (pj_ai pj_t0.1 179 30).toInt = 0 ∧ (pj_fi pj_t0.1 171 30).toInt = 0 ∧ (pj_fi pj_t0.1 27 1).toInt = 0 ∧ (pj_fi pj_t0.1 171 26).toInt = 0 ∧ pj_rb pj_t0.1 27 0 28 = (!pj_rb pj_t0.1 27 2 28) := pj_t0_all.2.2.2.2.2.2.2.2.1
theorem pj_t0_q3 : (pj_fi pj_t0.1 171 7).toInt = 0 ∧ ∀ i, i < 3 → (pj_ai pj_t0.1 56 i).toInt = 0 ∧ (pj_ai pj_t0.1 200 i).toInt = 0 := pj_t0_all.2.2.2.2.2.2.2.2.2
theorem pj_t0_eq : mr_T pj_t0.1 pj_t0.1 ∧ mr_F pj_t0.1 pj_t0.1 ∧ mr_N ((0 : Int32).toInt) pj_t0.1 ∧ mr_K pj_t0.1 pj_t0.1 ∧ mr_E ((0 : Int32).toInt) pj_t0.1 pj_t0.1 := by
  obtain ⟨a1, a2, a3, a4, a5, a6, a7, a8⟩ := pj_t0_q1
  obtain ⟨b1, b2, b3, b4⟩ := pj_t0_q2
  obtain ⟨a9, a10⟩ := pj_t0_q3
  obtain ⟨c1, c2, c3, c4, c5, c6⟩ := pj_t0_q4
  exact ⟨mr_T0 a1 a2, ⟨⟨by omega, by omega⟩, fun k hk hv => by rw [a7] at hv; omega, .inl ⟨mr_rbt b1, mr_rbt b2, b3, b4, fun i hi => by rw [a8] at hi; omega⟩, fun i hi => by rw [a3] at hi; omega, fun i hi => by rw [a4] at hi; omega⟩, ⟨by rw [a9]; decide, by rw [a9]; decide⟩, fun i hi => ⟨fun z => absurd (a10 i hi).1 z, fun z => absurd (a10 i hi).2 z, fun _ z => absurd (a10 i hi).2 z⟩, mr_E0 (by decide) a3 a4 c1 c2 a7 c3 (fun i hi => (a10 i hi).1) c4 c5 c6⟩
theorem pj_t0_LI : pj_LI ((0 : Int32).toInt) pj_t0.1 := by
  obtain ⟨f1, f2, f3⟩ := pj_t0_f
  refine ⟨pj_ck_s pj_t0_c0 pj_t0_c1 pj_t0_c2 pj_t0_c3, ⟨fun c hc => ?_, 0, ?_⟩, ?_, pj_t0_eq⟩
  · rw [f1] at hc
    exact absurd hc (by omega)
  · rw [f2]
    rfl
  · rw [f3]
    decide
