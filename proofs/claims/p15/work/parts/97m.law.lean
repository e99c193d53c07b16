/-! THE LAW'S LOOP -/
theorem pj_to_tsub {call : pj_F} {n0 : Nat} {xs : Nat → Int32} {M M' : pj_M} {tp : Nat} (hn : M'.2.2.1 = M.2.2.1) (hf : ∀ pc q, pj_find M'.2.2.2.2.2 pc = some q → pj_find M.2.2.2.2.2 pc = some q) : ∀ (n : Nat) (t t' : pj_T), pj_to call n0 xs M' tp n t = some t' → pj_to call n0 xs M tp n t = some t'
  | 0, t, t', h => by cases (show (none : Option pj_T) = some t' from h)
  | n + 1, t, t', h => by
    have h : pj_oneT call n0 xs M' tp (pj_to call n0 xs M' tp n) t = some t' := h
    show pj_oneT call n0 xs M tp (pj_to call n0 xs M tp n) t = some t'
    unfold pj_oneT at h ⊢
    by_cases e : t.2.1 = tp
    · rw [if_pos e] at h ⊢
      exact h
    · rw [if_neg e] at h ⊢
      cases hq : pj_find M'.2.2.2.2.2 t.2.1 with
      | none =>
        rw [hq] at h
        cases h
      | some q =>
        rw [hq] at h
        rw [hf _ _ hq]
        dsimp only at h ⊢
        rw [hn] at h
        cases hs : pj_s call n0 xs M.2.2.1 q.2.2.1 q.2.2.2 q.1 t.2.1 t.1 t.2.2.1 t.2.2.2.1 with
        | none =>
          rw [hs] at h
          cases h
        | some r =>
          rw [hs] at h
          exact pj_to_tsub hn hf n _ _ h
section PJZ
variable {C : Nat → pj_F} {n0 : Nat} {xs : Nat → Int32} {M M' : pj_M} {r : Option Value × pj_G × Nat × Nat} {G : pj_G} {pc mc ms : Nat} {L : pj_L} {S : List Value}
theorem pj_R_tz {t : pj_T} (hn : M'.2.2.1 = M.2.2.1) (hf : ∀ pc q, pj_find M'.2.2.2.2.2 pc = some q → pj_find M.2.2.2.2.2 pc = some q) (t' : pj_T) (tp n : Nat) (h : ∀ call, pj_to call n0 xs M' tp n t = some t') (h2 : pj_R C n0 xs M t' r) : pj_R C n0 xs M t r := pj_R_to t' tp n (fun call => pj_to_tsub hn hf n _ _ (h call)) h2
theorem pj_R_sl {k : Nat} {len : Nat} {inf : List Nat} {z : Int} {j : Int32} (hf : pj_find M.2.2.2.2.2 pc = some (.iaload, len, inf, z)) (h0 : 0 ≤ j.toInt) (h1 : j.toInt < k) (h2 : pj_R C (k + 1) xs M (G, pc + 1, L, .int (xs j.toNatClampNeg) :: S, mc, ms) r) : pj_R C (k + 1) xs M (G, pc, L, .int j :: .ref 0 :: S, mc, ms) r := by
  refine pj_R_st (t' := (G, pc + 1, L, .int (xs j.toNatClampNeg) :: S, 0, 0)) hf (fun call => ?_) h2
  have e : pj_sc (k + 1) xs (.int j :: .ref 0 :: S) = some (.int (xs j.toNatClampNeg) :: S) := by
    refine if_pos ?_
    rintro (q | q)
    · rw [Int32.lt_iff_toInt_lt, pj_lz0] at q
      omega
    · have e2 : j.toNatClampNeg = j.toInt.toNat := rfl
      omega
  show (match pj_sc (k + 1) xs (.int j :: .ref 0 :: S) with
    | some r => some ((G, pc + 1, L, r, 0, 0) : pj_T)
    | none => (pj_rdi G (.int j :: .ref 0 :: S)).map (fun r => ((G, pc + 1, L, r, 0, 0) : pj_T))) = _
  rw [e]
theorem pj_R_loc {A B : pj_L} (hn : pj_nd A) (hl : pj_inL B A) (h : pj_R C n0 xs M (G, pc, A, S, mc, ms) r) : pj_R C n0 xs M (G, pc, B, S, mc, ms) r := by
  obtain ⟨f, n, h⟩ := h
  exact ⟨f, n, pj_run_lsub n G pc A B S mc ms r (pj_inL_le hl) hn h⟩
end PJZ
theorem pj_ix5 {v k : Int32} {n : Int} (hk : k.toInt = n) (h0 : 0 ≤ v.toInt) (h1 : v.toInt ≤ 3000) (hn0 : 0 ≤ n) (hn : n ≤ 5) : (v + k).toInt = v.toInt + n := by
  rw [pj_addI (by rw [hk]; omega) (by rw [hk]; omega), hk]
/-- what holds between two calls -/
def pj_LI (n : Int) (G : pj_G) : Prop := pj_Inv G ∧ pj_RI G ∧ (pj_fi G 171 30).toInt ≤ 15 ∧ mr_T G G ∧ mr_F G G ∧ mr_N n G ∧ mr_K G G ∧ mr_E n G G
theorem pj_fi_g {G G' : pj_G} {a k : Nat} (h : pj_get G' a = pj_get G a) : pj_fi G' a k = pj_fi G a k := by
  unfold pj_fi pj_fv
  rw [h]
theorem pj_ai_g {G G' : pj_G} {a j : Nat} (h : pj_get G' a = pj_get G a) : pj_ai G' a j = pj_ai G a j := by
  unfold pj_ai
  rw [h]
theorem pj_RI_g {G G' : pj_G} (h : ∀ b, 171 ≤ b → b < 203 → pj_get G' b = pj_get G b) (q : pj_RI G) : pj_RI G' := by
  exact pj_RI_e q (pj_fi_g (h 171 (by decide) (by decide))) (pj_fi_g (h 171 (by decide) (by decide))) (pj_fi_g (h 171 (by decide) (by decide))) (fun j => pj_ai_g (h 173 (by decide) (by decide))) (fun j => pj_ai_g (h 174 (by decide) (by decide))) (fun j => pj_ai_g (h 182 (by decide) (by decide)))
theorem pj_UN_g {G G' : pj_G} (h : ∀ b, 171 ≤ b → b < 203 → pj_get G' b = pj_get G b) (q : (pj_fi G 171 30).toInt ≤ 15) : (pj_fi G' 171 30).toInt ≤ 15 := by
  rw [pj_fi_g (h 171 (by decide) (by decide))]
  exact q
