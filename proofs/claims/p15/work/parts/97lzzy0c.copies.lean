/-! STATES COPIED -/
theorem mr_sc {G : pj_G} (hS : pj_coks pj_tb G.1 = true) {a b n : Nat} {l l' : List (List Nat)} (ha : pj_tat a = some (1, n, l)) (hb : pj_tat b = some (1, n, l')) : pj_coks pj_tb (pj_wc G a b n).1 = true := by
  obtain ⟨f, hf, -⟩ := pj_t1_s hS ha
  obtain ⟨g, hg, hset⟩ := pj_t1_s hS hb
  have e : pj_wc G a b n = pj_put G b (.inl (0, n, .inl (va_cpy f g 0 0 n))) := by
    unfold pj_wc
    rw [hf]
    dsimp only
    rw [hg]
  rw [e]
  exact hset _
theorem mr_ce {G : pj_G} (hS : pj_coks pj_tb G.1 = true) {a b n j : Nat} {l l' : List (List Nat)} (ha : pj_tat a = some (1, n, l)) (hb : pj_tat b = some (1, n, l')) (hj : j < n) : pj_ai (pj_wc G a b n) b j = pj_ai G a j := by
  obtain ⟨f, hf, -⟩ := pj_t1_s hS ha
  obtain ⟨g, hg, -⟩ := pj_t1_s hS hb
  have e : pj_wc G a b n = pj_put G b (.inl (0, n, .inl (va_cpy f g 0 0 n))) := by
    unfold pj_wc
    rw [hf]
    dsimp only
    rw [hg]
  have h4 : pj_ai G a j = f j := by
    unfold pj_ai
    rw [hf]
  rw [h4, e]
  unfold pj_ai
  rw [pj_gp hg]
  show va_cpy f g 0 0 n j = f j
  unfold va_cpy
  rw [if_pos ⟨Nat.zero_le _, by omega⟩, Nat.zero_add, Nat.sub_zero]
theorem mr_cn {G : pj_G} {a b n c j : Nat} (h : c ≠ b) : pj_ai (pj_wc G a b n) c j = pj_ai G c j := by
  unfold pj_ai
  rw [pj_get_wc G a b n c h]
/-- a state of the class that is copied -/
def mr_st (t : Nat) : Prop := t = 21 ∨ ∃ k, k < 19 ∧ t = 57 + 6 * k
abbrev mr_sh (t : Nat) : Prop := pj_kd t 8 0 = some [] ∧ pj_kd t 8 5 = some [] ∧ pj_kd t 8 7 = some [] ∧ pj_kd t 8 8 = some [] ∧ pj_tat (t + 1) = some (1, 6, []) ∧ pj_tat (t + 2) = some (1, 6, []) ∧ pj_tat (t + 3) = some (1, 6, []) ∧ pj_tat (t + 4) = some (1, 6, []) ∧ pj_tat (t + 5) = some (1, 6, [])
theorem mr_sh21 : mr_sh 21 := ⟨rfl, rfl, rfl, rfl, rfl, rfl, rfl, rfl, rfl⟩
theorem mr_sh19 : ∀ k, k < 19 → mr_sh (57 + 6 * k) := fun k hk => by
  rcases (show k = 0 ∨ k = 1 ∨ k = 2 ∨ k = 3 ∨ k = 4 ∨ k = 5 ∨ k = 6 ∨ k = 7 ∨ k = 8 ∨ k = 9 ∨ k = 10 ∨ k = 11 ∨ k = 12 ∨ k = 13 ∨ k = 14 ∨ k = 15 ∨ k = 16 ∨ k = 17 ∨ k = 18 by omega) with rfl | rfl | rfl | rfl | rfl | rfl | rfl | rfl | rfl | rfl | rfl | rfl | rfl | rfl | rfl | rfl | rfl | rfl | rfl <;> exact ⟨rfl, rfl, rfl, rfl, rfl, rfl, rfl, rfl, rfl⟩
theorem mr_shs {t : Nat} (h : mr_st t) : mr_sh t := by
  rcases h with rfl | ⟨k, hk, rfl⟩
  · exact mr_sh21
  · exact mr_sh19 k hk
theorem mr_apart {t f : Nat} (ht : mr_st t) (hf : mr_st f) (ne : t ≠ f) (x y : Nat) (hx : x ≤ 5) (hy : y ≤ 5) : t + x ≠ f + y := by
  rcases ht with rfl | ⟨k, hk, rfl⟩ <;> rcases hf with rfl | ⟨m, hm, rfl⟩ <;> omega
def mr_b5 (t f : Nat) (G : pj_G) : pj_G := pj_wc (pj_wc (pj_wc (pj_wc (pj_wv G t 0 (.int (pj_fi G f 0))) (f + 1) (t + 1) 6) (f + 2) (t + 2) 6) (f + 3) (t + 3) 6) (f + 4) (t + 4) 6
def mr_b6 (t f : Nat) (G : pj_G) : pj_G := pj_wc (pj_wv (mr_b5 t f G) t 5 (.int (pj_fi G f 5))) (f + 5) (t + 5) 6
def mr_b7 (t f : Nat) (G : pj_G) : pj_G := pj_wv (mr_b6 t f G) t 7 (.int (pj_fi (mr_b6 t f G) f 7))
/-- t becomes as f is -/
def mr_bec (t f : Nat) (G : pj_G) : pj_G := pj_wv (mr_b7 t f G) t 8 (.int (pj_fi (mr_b7 t f G) f 8))
theorem mr_b5f (t f : Nat) (G : pj_G) (a k : Nat) (h : ¬ (a = t ∧ k = 0)) : pj_fi (mr_b5 t f G) a k = pj_fi G a k := by
  unfold mr_b5
  rw [pj_fi_wc, pj_fi_wc, pj_fi_wc, pj_fi_wc, pj_fi_wv_ne _ _ _ _ _ _ h]
theorem mr_b6f (t f : Nat) (G : pj_G) (a k : Nat) (h : ¬ (a = t ∧ k = 0)) (h5 : ¬ (a = t ∧ k = 5)) : pj_fi (mr_b6 t f G) a k = pj_fi G a k := by
  unfold mr_b6
  rw [pj_fi_wc, pj_fi_wv_ne _ _ _ _ _ _ h5, mr_b5f t f G a k h]
theorem mr_bec_f (t f : Nat) (G : pj_G) (a k : Nat) (h : a ≠ t) : pj_fi (mr_bec t f G) a k = pj_fi G a k := by
  unfold mr_bec mr_b7
  rw [pj_fi_wv_ne _ _ _ _ _ _ (fun z => h z.1), pj_fi_wv_ne _ _ _ _ _ _ (fun z => h z.1), mr_b6f t f G a k (fun z => h z.1) (fun z => h z.1)]
theorem mr_bec_n (t f : Nat) (G : pj_G) (a j : Nat) (h : a < t + 1 ∨ t + 5 < a) : pj_ai (mr_bec t f G) a j = pj_ai G a j := by
  unfold mr_bec mr_b7 mr_b6 mr_b5
  rw [pj_ai_wv, pj_ai_wv, mr_cn (by omega), pj_ai_wv, mr_cn (by omega), mr_cn (by omega), mr_cn (by omega), mr_cn (by omega), pj_ai_wv]
theorem mr_bec_r {t f : Nat} (ht : mr_st t) (hf : mr_st f) (ne : t ≠ f) {G : pj_G} (hS : pj_coks pj_tb G.1 = true) : pj_coks pj_tb (mr_bec t f G).1 = true ∧ pj_fi (mr_bec t f G) t 0 = pj_fi G f 0 ∧ pj_fi (mr_bec t f G) t 5 = pj_fi G f 5 ∧ pj_fi (mr_bec t f G) t 7 = pj_fi G f 7 ∧ ∀ j, j < 6 → pj_ai (mr_bec t f G) (t + 1) j = pj_ai G (f + 1) j ∧ pj_ai (mr_bec t f G) (t + 2) j = pj_ai G (f + 2) j ∧ pj_ai (mr_bec t f G) (t + 3) j = pj_ai G (f + 3) j ∧ pj_ai (mr_bec t f G) (t + 4) j = pj_ai G (f + 4) j ∧ pj_ai (mr_bec t f G) (t + 5) j = pj_ai G (f + 5) j := by
  obtain ⟨t0, t5, t7, t8, ta1, ta2, ta3, ta4, ta5⟩ := mr_shs ht
  obtain ⟨-, -, -, -, fa1, fa2, fa3, fa4, fa5⟩ := mr_shs hf
  have ap := mr_apart ht hf ne
  have s1 := mr_sv hS t0 (pj_fi G f 0)
  have s2 := mr_sc s1 fa1 ta1
  have s3 := mr_sc s2 fa2 ta2
  have s4 := mr_sc s3 fa3 ta3
  have s5 : pj_coks pj_tb (mr_b5 t f G).1 = true := mr_sc s4 fa4 ta4
  have s6 := mr_sv s5 t5 (pj_fi G f 5)
  have s7 : pj_coks pj_tb (mr_b6 t f G).1 = true := mr_sc s6 fa5 ta5
  have s8 : pj_coks pj_tb (mr_b7 t f G).1 = true := mr_sv s7 t7 _
  refine ⟨mr_sv s8 t8 _, ?_, ?_, ?_, fun j hj => ⟨?_, ?_, ?_, ?_, ?_⟩⟩
  · unfold mr_bec mr_b7 mr_b6 mr_b5
    rw [pj_fi_wv_ne _ _ _ _ _ _ (by omega), pj_fi_wv_ne _ _ _ _ _ _ (by omega), pj_fi_wc, pj_fi_wv_ne _ _ _ _ _ _ (by omega), pj_fi_wc, pj_fi_wc, pj_fi_wc, pj_fi_wc]
    exact pj_fi_wi hS t0 _
  · unfold mr_bec mr_b7 mr_b6
    rw [pj_fi_wv_ne _ _ _ _ _ _ (by omega), pj_fi_wv_ne _ _ _ _ _ _ (by omega), pj_fi_wc]
    exact pj_fi_wi s5 t5 _
  · have e : pj_fi (mr_b7 t f G) t 7 = pj_fi (mr_b6 t f G) f 7 := pj_fi_wi s7 t7 _
    unfold mr_bec
    rw [pj_fi_wv_ne _ _ _ _ _ _ (by omega), e, mr_b6f t f G f 7 (by omega) (by omega)]
  · unfold mr_bec mr_b7 mr_b6 mr_b5
    rw [pj_ai_wv, pj_ai_wv, mr_cn (by omega), pj_ai_wv, mr_cn (by omega), mr_cn (by omega), mr_cn (by omega), mr_ce s1 fa1 ta1 hj, pj_ai_wv]
  · unfold mr_bec mr_b7 mr_b6 mr_b5
    rw [pj_ai_wv, pj_ai_wv, mr_cn (by omega), pj_ai_wv, mr_cn (by omega), mr_cn (by omega), mr_ce s2 fa2 ta2 hj, mr_cn (fun z => ap 1 2 (by decide) (by decide) z.symm), pj_ai_wv]
  · unfold mr_bec mr_b7 mr_b6 mr_b5
    rw [pj_ai_wv, pj_ai_wv, mr_cn (by omega), pj_ai_wv, mr_cn (by omega), mr_ce s3 fa3 ta3 hj, mr_cn (fun z => ap 2 3 (by decide) (by decide) z.symm), mr_cn (fun z => ap 1 3 (by decide) (by decide) z.symm), pj_ai_wv]
  · unfold mr_bec mr_b7 mr_b6 mr_b5
    rw [pj_ai_wv, pj_ai_wv, mr_cn (by omega), pj_ai_wv, mr_ce s4 fa4 ta4 hj, mr_cn (fun z => ap 3 4 (by decide) (by decide) z.symm), mr_cn (fun z => ap 2 4 (by decide) (by decide) z.symm), mr_cn (fun z => ap 1 4 (by decide) (by decide) z.symm), pj_ai_wv]
  · unfold mr_bec mr_b7 mr_b6
    rw [pj_ai_wv, pj_ai_wv, mr_ce s6 fa5 ta5 hj, pj_ai_wv]
    unfold mr_b5
    rw [mr_cn (fun z => ap 4 5 (by decide) (by decide) z.symm), mr_cn (fun z => ap 3 5 (by decide) (by decide) z.symm), mr_cn (fun z => ap 2 5 (by decide) (by decide) z.symm), mr_cn (fun z => ap 1 5 (by decide) (by decide) z.symm), pj_ai_wv]
/-- what holds of the numbers of such a row: NOW, LOANS, where BRIDGES are (one at a CROSSING at most) -/
def mr_ok (R : pj_G) (a o : Nat) (nb B kc : Int) : Prop := (0 ≤ (pj_ai R a (o + 30)).toInt ∧ (pj_ai R a (o + 30)).toInt ≤ B) ∧ (∀ b : Nat, (b : Int) < nb → -1 ≤ (pj_ai R a (o + 4 * b + 2)).toInt ∧ -1 ≤ (pj_ai R a (o + 4 * b)).toInt ∧ (pj_ai R a (o + 4 * b)).toInt < kc) ∧ ∀ b d : Nat, (b : Int) < nb → (d : Int) < nb → b ≠ d → pj_ai R a (o + 4 * b) = pj_ai R a (o + 4 * d) → (pj_ai R a (o + 4 * b)).toInt = -1
theorem mr_okR {R R' : pj_G} {a o a' o' : Nat} {nb B kc : Int} (hb : nb ≤ 6) (h : mr_ok R a o nb B kc) (k : ∀ k : Nat, k < 32 → pj_ai R' a' (o' + k) = pj_ai R a (o + k)) : mr_ok R' a' o' nb B kc := by
  obtain ⟨h1, h2, h3⟩ := h
  refine ⟨by rw [k 30 (by decide)]; exact h1, fun b hb2 => ?_, fun b d hb2 hd ne e => ?_⟩
  · have k0 := k (4 * b) (by omega)
    have k2 : pj_ai R' a' (o' + 4 * b + 2) = pj_ai R a (o + 4 * b + 2) := k (4 * b + 2) (by omega)
    rw [k0, k2]
    exact h2 b hb2
  · have k0 := k (4 * b) (by omega)
    have k1 := k (4 * d) (by omega)
    rw [k0, k1] at e
    rw [k0]
    exact h3 b d hb2 hd ne e
theorem mr_okB {R : pj_G} {a o : Nat} {nb B B' kc : Int} (h : mr_ok R a o nb B kc) (hB : B ≤ B') : mr_ok R a o nb B' kc := ⟨⟨h.1.1, by have := h.1.2; omega⟩, h.2⟩
/-- a state of the class (cell s of C) is a row of the reference's (array a of R from o on): bridges, people, NOW -/
def mr_row (C : pj_G) (s : Nat) (R : pj_G) (a o : Nat) (nb np B kc : Int) : Prop := (∀ b : Nat, (b : Int) < nb → pj_ai C (s + 1) b = pj_ai R a (o + 4 * b) ∧ pj_ai C (s + 2) b = pj_ai R a (o + 4 * b + 1) ∧ pj_ai C (s + 4) b = pj_ai R a (o + 4 * b + 2) ∧ pj_ai C (s + 3) b = pj_ai R a (o + 4 * b + 3)) ∧ (∀ p : Nat, (p : Int) < np → pj_ai C (s + 5) p = pj_ai R a (o + 24 + p)) ∧ pj_fi C s 7 = pj_ai R a (o + 30) ∧ mr_ok R a o nb B kc
theorem mr_rowC {t f : Nat} (ht : mr_st t) (hf : mr_st f) (ne : t ≠ f) {C R : pj_G} (hS : pj_coks pj_tb C.1 = true) {a o : Nat} {nb np B kc : Int} (hb : nb ≤ 6) (hp : np ≤ 6) (h : mr_row C f R a o nb np B kc) : mr_row (mr_bec t f C) t R a o nb np B kc := by
  obtain ⟨-, -, -, e7, ea⟩ := mr_bec_r ht hf ne hS
  refine ⟨fun b hb2 => ?_, fun p hp2 => ?_, e7.trans h.2.2.1, h.2.2.2⟩
  · obtain ⟨e1, e2, e3, e4, e5⟩ := ea b (by omega)
    rw [e1, e2, e3, e4]
    exact h.1 b hb2
  · rw [(ea p (by omega)).2.2.2.2]
    exact h.2.1 p hp2
theorem mr_rowk {C C' R : pj_G} {s a o : Nat} {nb np B kc : Int} (h : mr_row C s R a o nb np B kc) (k1 : ∀ j, pj_ai C' (s + 1) j = pj_ai C (s + 1) j) (k2 : ∀ j, pj_ai C' (s + 2) j = pj_ai C (s + 2) j) (k3 : ∀ j, pj_ai C' (s + 3) j = pj_ai C (s + 3) j) (k4 : ∀ j, pj_ai C' (s + 4) j = pj_ai C (s + 4) j) (k5 : ∀ j, pj_ai C' (s + 5) j = pj_ai C (s + 5) j) (k7 : pj_fi C' s 7 = pj_fi C s 7) : mr_row C' s R a o nb np B kc := by
  refine ⟨fun b hb => ?_, fun p hp => ?_, k7.trans h.2.2.1, h.2.2.2⟩
  · rw [k1, k2, k3, k4]
    exact h.1 b hb
  · rw [k5]
    exact h.2.1 p hp
theorem mr_rowu {t f u : Nat} (ht : mr_st t) (hu : mr_st u) (ne : u ≠ t) {C R : pj_G} {a o : Nat} {nb np B kc : Int} (h : mr_row C u R a o nb np B kc) : mr_row (mr_bec t f C) u R a o nb np B kc := by
  have ap := mr_apart hu ht ne
  have n : ∀ x, 1 ≤ x → x ≤ 5 → u + x < t + 1 ∨ t + 5 < u + x := fun x h1 h5 => by
    have a1 := ap x 1 h5 (by decide)
    have a2 := ap x 2 h5 (by decide)
    have a3 := ap x 3 h5 (by decide)
    have a4 := ap x 4 h5 (by decide)
    have a5 := ap x 5 h5 (by decide)
    omega
  exact mr_rowk h (fun j => mr_bec_n t f C _ j (n 1 (by decide) (by decide))) (fun j => mr_bec_n t f C _ j (n 2 (by decide) (by decide))) (fun j => mr_bec_n t f C _ j (n 3 (by decide) (by decide))) (fun j => mr_bec_n t f C _ j (n 4 (by decide) (by decide))) (fun j => mr_bec_n t f C _ j (n 5 (by decide) (by decide))) (mr_bec_f t f C u 7 ne)
theorem mr_rowR {C R R' : pj_G} {s a o a' o' : Nat} {nb np B kc : Int} (hb : nb ≤ 6) (hp : np ≤ 6) (h : mr_row C s R a o nb np B kc) (k : ∀ k : Nat, k < 32 → pj_ai R' a' (o' + k) = pj_ai R a (o + k)) : mr_row C s R' a' o' nb np B kc := by
  refine ⟨fun b hb2 => ?_, fun p hp2 => ?_, h.2.2.1.trans (k 30 (by decide)).symm, mr_okR hb h.2.2.2 k⟩
  · obtain ⟨h1, h2, h3, h4⟩ := h.1 b hb2
    have k0 := k (4 * b) (by omega)
    have k1 := k (4 * b + 1) (by omega)
    have k2 := k (4 * b + 2) (by omega)
    have k3 := k (4 * b + 3) (by omega)
    exact ⟨h1.trans k0.symm, h2.trans k1.symm, h3.trans k2.symm, h4.trans k3.symm⟩
  · have k0 := k (24 + p) (by omega)
    have e : o' + (24 + p) = o' + 24 + p := by omega
    have e2 : o + (24 + p) = o + 24 + p := by omega
    rw [e, e2] at k0
    exact (h.2.1 p hp2).trans k0.symm
/-! WHAT CAN BE UNDONE, ON BOTH SIDES -/
def mr_S (B kc : Int) (C R : pj_G) : Prop := mr_row C 21 R 179 0 (pj_fi C 21 0).toInt (pj_fi C 21 5).toInt B kc
def mr_U (B kc : Int) (C R : pj_G) : Prop := (pj_fi C 53 2).toInt = (pj_fi R 171 30).toInt ∧ ∀ i k : Nat, (i : Int) < (pj_fi C 53 2).toInt → k < 16 → (k : Int) = ((pj_fi C 53 1).toInt + 16 - (pj_fi C 53 2).toInt + (i : Int)) % 16 → mr_row C (57 + 6 * k) R 186 (32 * i) (pj_fi C 21 0).toInt (pj_fi C 21 5).toInt B kc
/-- the state was noted; it is not yet held -/
def mr_Up (B kc : Int) (C R : pj_G) : Prop := mr_U B kc C R ∧ ∀ i k : Nat, (i : Int) = (pj_fi C 53 2).toInt → k < 16 → (k : Int) = (pj_fi C 53 1).toInt → mr_row C (57 + 6 * k) R 186 (32 * i) (pj_fi C 21 0).toInt (pj_fi C 21 5).toInt B kc
theorem mr_stk {k : Nat} (h : k < 16) : mr_st (57 + 6 * k) := .inr ⟨k, by omega, rfl⟩
theorem mr_st21 : mr_st 21 := .inl rfl
/-- what leaves what can be undone as it is: in the class .. -/
def mr_cU (C C' : pj_G) : Prop := (pj_fi C' 53 1).toInt = (pj_fi C 53 1).toInt ∧ (pj_fi C' 53 2).toInt = (pj_fi C 53 2).toInt ∧ (pj_fi C' 21 0).toInt = (pj_fi C 21 0).toInt ∧ (pj_fi C' 21 5).toInt = (pj_fi C 21 5).toInt ∧ ∀ k : Nat, k < 16 → pj_fi C' (57 + 6 * k) 7 = pj_fi C (57 + 6 * k) 7 ∧ ∀ x : Nat, 1 ≤ x → x ≤ 5 → ∀ j, pj_ai C' (57 + 6 * k + x) j = pj_ai C (57 + 6 * k + x) j
/-- .. in the reference -/
def mr_rU (R R' : pj_G) : Prop := (pj_fi R' 171 30).toInt = (pj_fi R 171 30).toInt ∧ ∀ j, pj_ai R' 186 j = pj_ai R 186 j
theorem mr_rowq {C C' R R' : pj_G} {k o : Nat} {nb np B kc : Int} (hk : k < 16) (hC : mr_cU C C') (hR : mr_rU R R') (h : mr_row C (57 + 6 * k) R 186 o nb np B kc) : mr_row C' (57 + 6 * k) R' 186 o nb np B kc := by
  obtain ⟨-, -, -, -, c⟩ := hC
  obtain ⟨c7, ca⟩ := c k hk
  have h1 := mr_rowk (C' := C') h (ca 1 (by decide) (by decide)) (ca 2 (by decide) (by decide)) (ca 3 (by decide) (by decide)) (ca 4 (by decide) (by decide)) (ca 5 (by decide) (by decide)) c7
  refine ⟨fun b hb => ?_, fun p hp => ?_, ?_, ?_⟩
  · rw [hR.2, hR.2, hR.2, hR.2]
    exact h1.1 b hb
  · rw [hR.2]
    exact h1.2.1 p hp
  · rw [hR.2]
    exact h1.2.2.1
  · obtain ⟨o1, o2, o3⟩ := h1.2.2.2
    refine ⟨by rw [hR.2]; exact o1, fun b hb => by rw [hR.2, hR.2]; exact o2 b hb, fun b d hb hd ne e => ?_⟩
    rw [hR.2, hR.2] at e
    rw [hR.2]
    exact o3 b d hb hd ne e
theorem mr_Uk {B kc : Int} {C C' R R' : pj_G} (h : mr_U B kc C R) (hC : mr_cU C C') (hR : mr_rU R R') : mr_U B kc C' R' := by
  obtain ⟨c1, c2, c3, c4, c5⟩ := id hC
  refine ⟨by rw [c2, hR.1]; exact h.1, fun i k hi hk e => ?_⟩
  rw [c3, c4]
  exact mr_rowq hk hC hR (h.2 i k (by omega) hk (by omega))
theorem mr_Upk {B kc : Int} {C C' R R' : pj_G} (h : mr_Up B kc C R) (hC : mr_cU C C') (hR : mr_rU R R') : mr_Up B kc C' R' := by
  obtain ⟨c1, c2, c3, c4, c5⟩ := id hC
  refine ⟨mr_Uk h.1 hC hR, fun i k hi hk e => ?_⟩
  rw [c3, c4]
  exact mr_rowq hk hC hR (h.2 i k (by omega) hk (by omega))
/-- the state is noted on both sides -/
theorem mr_Un {B kc : Int} {C R R' : pj_G} (iC : pj_Inv C) (hS : mr_S B kc C R) (hU : mr_U B kc C R) (n : Nat) (hn : n < 16) (en : (pj_fi C 53 1).toInt = (n : Int)) (r1 : (pj_fi R' 171 30).toInt = (pj_fi R 171 30).toInt) (m : Nat) (em : (pj_fi R 171 30).toInt = (m : Int)) (rc : ∀ k : Nat, k < 32 → pj_ai R' 186 (32 * m + k) = pj_ai R 179 (0 + k)) (ro : ∀ j : Nat, j < 32 * m → pj_ai R' 186 j = pj_ai R 186 j) : mr_Up B kc (mr_bec (57 + 6 * n) 21 C) R' := by
  have rb : (0 : Int) ≤ (pj_fi C 21 0).toInt ∧ (pj_fi C 21 0).toInt ≤ 6 := iC.2.1 21 0 (0, 6) rfl
  have rp : (0 : Int) ≤ (pj_fi C 21 5).toInt ∧ (pj_fi C 21 5).toInt ≤ 6 := iC.2.1 21 5 (0, 6) rfl
  have rs : (0 : Int) ≤ (pj_fi C 53 2).toInt ∧ (pj_fi C 53 2).toInt ≤ 15 := iC.2.1 53 2 (0, 15) rfl
  have f : ∀ a k, a < 57 → pj_fi (mr_bec (57 + 6 * n) 21 C) a k = pj_fi C a k := fun a k ha => mr_bec_f _ _ _ a k (by omega)
  have h0 := hU.1
  refine ⟨⟨by rw [f 53 2 (by decide), r1]; exact h0, fun i k hi hk e => ?_⟩, fun i k hi hk e => ?_⟩
  · rw [f 53 2 (by decide)] at hi e
    rw [f 53 1 (by decide)] at e
    rw [f 21 0 (by decide), f 21 5 (by decide)]
    have q := hU.2 i k hi hk e
    have q2 := mr_rowu (f := 21) (mr_stk hn) (mr_stk hk) (show 57 + 6 * k ≠ 57 + 6 * n by omega) q
    exact mr_rowR (by omega) (by omega) q2 (fun z hz => ro _ (by omega))
  · rw [f 53 2 (by decide)] at hi
    rw [f 53 1 (by decide)] at e
    rw [f 21 0 (by decide), f 21 5 (by decide)]
    have ek : k = n := by omega
    have ei : i = m := by omega
    subst ek
    subst ei
    exact mr_rowR (by omega) (by omega) (mr_rowC (mr_stk hn) mr_st21 (by omega) iC.1 (by omega) (by omega) hS) rc
/-- it is held on both sides -/
theorem mr_Uh {B kc : Int} {C C' R R' : pj_G} (iC : pj_Inv C) (h : mr_Up B kc C R) (c1 : (pj_fi C' 53 1).toInt = ((pj_fi C 53 1).toInt + 1) % 16) (c2 : (pj_fi C 53 2).toInt ≤ 14 → (pj_fi C' 53 2).toInt = (pj_fi C 53 2).toInt + 1) (c3 : (pj_fi C 53 2).toInt = 15 → (pj_fi C' 53 2).toInt = 15) (cf : ∀ a k, a ≠ 53 → pj_fi C' a k = pj_fi C a k) (ca : ∀ a j, pj_ai C' a j = pj_ai C a j) (r1 : (pj_fi R 171 30).toInt ≤ 14 → (pj_fi R' 171 30).toInt = (pj_fi R 171 30).toInt + 1 ∧ ∀ j, pj_ai R' 186 j = pj_ai R 186 j) (r2 : (pj_fi R 171 30).toInt = 15 → (pj_fi R' 171 30).toInt = 15 ∧ ∀ j, j < 480 → pj_ai R' 186 j = pj_ai R 186 (j + 32)) : mr_U B kc C' R' := by
  have rb : (0 : Int) ≤ (pj_fi C 21 0).toInt ∧ (pj_fi C 21 0).toInt ≤ 6 := iC.2.1 21 0 (0, 6) rfl
  have rp : (0 : Int) ≤ (pj_fi C 21 5).toInt ∧ (pj_fi C 21 5).toInt ≤ 6 := iC.2.1 21 5 (0, 6) rfl
  have rs : (0 : Int) ≤ (pj_fi C 53 2).toInt ∧ (pj_fi C 53 2).toInt ≤ 15 := iC.2.1 53 2 (0, 15) rfl
  have rn : (0 : Int) ≤ (pj_fi C 53 1).toInt ∧ (pj_fi C 53 1).toInt ≤ 15 := iC.2.1 53 1 (0, 15) rfl
  obtain ⟨hU, hp⟩ := h
  have h0 := hU.1
  have row : ∀ (k o : Nat), mr_row C (57 + 6 * k) R 186 o (pj_fi C 21 0).toInt (pj_fi C 21 5).toInt B kc → mr_row C' (57 + 6 * k) R 186 o (pj_fi C' 21 0).toInt (pj_fi C' 21 5).toInt B kc := fun k o q => by
    rw [cf 21 0 (by decide), cf 21 5 (by decide)]
    exact mr_rowk q (ca _) (ca _) (ca _) (ca _) (ca _) (cf _ 7 (by omega))
  have rb' : (pj_fi C' 21 0).toInt ≤ 6 := by rw [cf 21 0 (by decide)]; exact rb.2
  have rp' : (pj_fi C' 21 5).toInt ≤ 6 := by rw [cf 21 5 (by decide)]; exact rp.2
  by_cases q15 : (pj_fi C 53 2).toInt = 15
  · obtain ⟨r3, r4⟩ := r2 (by omega)
    have c4 := c3 q15
    refine ⟨by omega, fun i k hi hk e => ?_⟩
    by_cases qi : (i : Int) = 14
    · have z := row k _ (hp 15 k (by omega) hk (by omega))
      exact mr_rowR rb' rp' z (fun x hx => by rw [r4 (32 * i + x) (by omega)]; congr 1; omega)
    · have z := row k _ (hU.2 (i + 1) k (by omega) hk (by omega))
      exact mr_rowR rb' rp' z (fun x hx => by rw [r4 (32 * i + x) (by omega)]; congr 1; omega)
  · obtain ⟨r3, r4⟩ := r1 (by omega)
    have c4 := c2 (by omega)
    refine ⟨by omega, fun i k hi hk e => ?_⟩
    by_cases qi : (i : Int) = (pj_fi C 53 2).toInt
    · have z := row k _ (hp i k qi hk (by omega))
      exact mr_rowR rb' rp' z (fun x _ => r4 _)
    · have z := row k _ (hU.2 i k (by omega) hk (by omega))
      exact mr_rowR rb' rp' z (fun x _ => r4 _)
/-- the latest is undone on both sides -/
theorem mr_Ut {B kc : Int} {C C' R R' : pj_G} (iC : pj_Inv C) (hC' : pj_coks pj_tb C'.1 = true) (hP : mr_P C) (h : mr_U B kc C R) (s1 : 1 ≤ (pj_fi C 53 2).toInt) (n : Nat) (hn : n < 16) (en : (n : Int) = ((pj_fi C 53 1).toInt + 15) % 16) (c1 : (pj_fi C' 53 1).toInt = (n : Int)) (c2 : (pj_fi C' 53 2).toInt = (pj_fi C 53 2).toInt - 1) (cf : ∀ a k, a ≠ 53 → pj_fi C' a k = pj_fi C a k) (ca : ∀ a j, pj_ai C' a j = pj_ai C a j) (m : Nat) (em : (m : Int) = (pj_fi R 171 30).toInt - 1) (r1 : (pj_fi R' 171 30).toInt = (pj_fi R 171 30).toInt - 1) (rc : ∀ k : Nat, k < 32 → pj_ai R' 179 (0 + k) = pj_ai R 186 (32 * m + k)) (ro : ∀ j, pj_ai R' 186 j = pj_ai R 186 j) : mr_S B kc (mr_bec 21 (57 + 6 * n) C') R' ∧ mr_U B kc (mr_bec 21 (57 + 6 * n) C') R' := by
  have rb : (0 : Int) ≤ (pj_fi C 21 0).toInt ∧ (pj_fi C 21 0).toInt ≤ 6 := iC.2.1 21 0 (0, 6) rfl
  have rp : (0 : Int) ≤ (pj_fi C 21 5).toInt ∧ (pj_fi C 21 5).toInt ≤ 6 := iC.2.1 21 5 (0, 6) rfl
  have rs : (0 : Int) ≤ (pj_fi C 53 2).toInt ∧ (pj_fi C 53 2).toInt ≤ 15 := iC.2.1 53 2 (0, 15) rfl
  have rn : (0 : Int) ≤ (pj_fi C 53 1).toInt ∧ (pj_fi C 53 1).toInt ≤ 15 := iC.2.1 53 1 (0, 15) rfl
  have h0 := h.1
  obtain ⟨e0, e5⟩ := hP n hn (by omega)
  obtain ⟨-, f0, f5, -, -⟩ := mr_bec_r mr_st21 (mr_stk hn) (by omega) hC'
  have g0 : (pj_fi (mr_bec 21 (57 + 6 * n) C') 21 0).toInt = (pj_fi C 21 0).toInt := by rw [f0, cf _ _ (by omega)]; exact e0
  have g5 : (pj_fi (mr_bec 21 (57 + 6 * n) C') 21 5).toInt = (pj_fi C 21 5).toInt := by rw [f5, cf _ _ (by omega)]; exact e5
  have row : ∀ (k o : Nat), mr_row C (57 + 6 * k) R 186 o (pj_fi C 21 0).toInt (pj_fi C 21 5).toInt B kc → mr_row C' (57 + 6 * k) R 186 o (pj_fi C 21 0).toInt (pj_fi C 21 5).toInt B kc := fun k o q => mr_rowk q (ca _) (ca _) (ca _) (ca _) (ca _) (cf _ 7 (by omega))
  have f : ∀ k, pj_fi (mr_bec 21 (57 + 6 * n) C') 53 k = pj_fi C' 53 k := fun k => mr_bec_f _ _ _ 53 k (by decide)
  refine ⟨?_, ?_, fun i k hi hk e => ?_⟩
  · unfold mr_S
    rw [g0, g5]
    exact mr_rowR (by omega) (by omega) (mr_rowC mr_st21 (mr_stk hn) (by omega) hC' (by omega) (by omega) (row n _ (h.2 m n (by omega) hn (by omega)))) rc
  · rw [f 2, c2, r1, h0]
  · rw [f 2] at hi e
    rw [f 1] at e
    rw [g0, g5]
    have z := row k _ (h.2 i k (by omega) hk (by omega))
    exact mr_rowR (by omega) (by omega) (mr_rowu mr_st21 (mr_stk hk) (by omega) z) (fun x _ => ro _)
