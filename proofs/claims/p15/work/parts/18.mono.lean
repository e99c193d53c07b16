/-! MORE FUEL, MORE DEPTH, MORE SCRIPT: THE SAME ANSWER -/
def pj_sub (c1 c2 : pj_F) : Prop := ∀ (mi : Nat) (vs : List Value) (G : pj_G) (r : Option Value × pj_G × Nat × Nat), c1 mi vs G = some r → c2 mi vs G = some r
theorem pj_inv_le {c1 c2 : pj_F} (hc : pj_sub c1 c2) {inf : List Nat} {G : pj_G} {S : List Value} {r : pj_G × List Value × Nat × Nat} (h : pj_inv c1 inf G S = some r) : pj_inv c2 inf G S = some r := by
  unfold pj_inv at h ⊢
  split at h
  · rename_i hg
    rw [if_pos hg]
    split at h
    · rename_i q hq
      rw [hc _ _ _ _ hq]
      exact h
    · cases h
  · cases h
theorem pj_invm_le {c1 c2 : pj_F} (hc : pj_sub c1 c2) {inf : List Nat} {G : pj_G} {S : List Value} {f : pj_G × List Value × Nat × Nat → pj_T} {t : pj_T} (h : (pj_inv c1 inf G S).map f = some t) : (pj_inv c2 inf G S).map f = some t := by
  obtain ⟨r, h1, h2⟩ := pj_map h
  rw [pj_inv_le hc h1]
  exact congrArg some h2
theorem pj_rdi_0 {G : pj_G} {j : Int32} {r : List Value} : pj_rdi G (.int j :: .ref 0 :: r) = none := rfl
theorem pj_sc_up {n1 : Nat} {x1 : Nat → Int32} {G : pj_G} {S S' : List Value} (h : pj_rdi G S = some S') : pj_sc n1 x1 S = none := by
  unfold pj_sc
  split
  · rw [pj_rdi_0] at h
    cases h
  · rfl
theorem pj_sc_0 {xs : Nat → Int32} {S : List Value} : pj_sc 0 xs S = none := by
  unfold pj_sc
  split
  · rw [if_neg (fun z => z (Or.inr (Nat.zero_le _)))]
  · rfl
theorem pj_aln_up {n1 : Nat} {G : pj_G} {S S' : List Value} (h : pj_aln 0 G S = some S') : pj_aln n1 G S = some S' := by
  unfold pj_aln at h ⊢
  split at h
  · cases h
  · exact h
  · cases h
theorem pj_s_le {c1 c2 : pj_F} (hc : pj_sub c1 c2) {n0 n1 : Nat} {xs x1 : Nat → Int32} (hn : (n0 = n1 ∧ xs = x1) ∨ n0 = 0) {nL : Nat} {inf : List Nat} {z : Int} {i : Instr} {pc : Nat} {G : pj_G} {L : pj_L} {S : List Value} {t : pj_T} (h : pj_s c1 n0 xs nL inf z i pc G L S = some t) : pj_s c2 n1 x1 nL inf z i pc G L S = some t := by
  cases i
  case iaload =>
    rcases hn with ⟨rfl, rfl⟩ | rfl
    · exact h
    · have h1 : (match pj_sc 0 xs S with
        | some r => some (G, pc + 1, L, r, 0, 0)
        | none => (pj_rdi G S).map (fun r => (G, pc + 1, L, r, 0, 0))) = some t := h
      rw [pj_sc_0] at h1
      have h2 : (pj_rdi G S).map (fun r => ((G, pc + 1, L, r, 0, 0) : pj_T)) = some t := h1
      obtain ⟨r, h3, h4⟩ := pj_map h2
      show (match pj_sc n1 x1 S with
        | some r => some (G, pc + 1, L, r, 0, 0)
        | none => (pj_rdi G S).map (fun r => ((G, pc + 1, L, r, 0, 0) : pj_T))) = some t
      rw [pj_sc_up h3]
      exact h2
  case arraylength =>
    rcases hn with ⟨rfl, rfl⟩ | rfl
    · exact h
    · have h2 : (pj_aln 0 G S).map (fun r => ((G, pc + 1, L, r, 0, 0) : pj_T)) = some t := h
      obtain ⟨r, h3, h4⟩ := pj_map h2
      show (pj_aln n1 G S).map (fun r => ((G, pc + 1, L, r, 0, 0) : pj_T)) = some t
      rw [pj_aln_up h3]
      exact congrArg some h4
  case invokevirtual q => exact pj_invm_le hc h
  case invokespecial q =>
    have h1 : (if inf.getD 0 0 = 6 then (pj_oi S).map (fun r => ((G, pc + 3, L, r, 0, 0) : pj_T)) else (pj_inv c1 inf G S).map (fun r => (r.1, pc + 3, L, r.2.1, r.2.2.1, r.2.2.2))) = some t := h
    show (if inf.getD 0 0 = 6 then (pj_oi S).map (fun r => ((G, pc + 3, L, r, 0, 0) : pj_T)) else (pj_inv c2 inf G S).map (fun r => (r.1, pc + 3, L, r.2.1, r.2.2.1, r.2.2.2))) = some t
    split at h1
    · rename_i hg
      rw [if_pos hg]
      exact h1
    · rename_i hg
      rw [if_neg hg]
      exact pj_invm_le hc h1
  case invokestatic q =>
    have h1 : (if inf.getD 0 0 = 7 then (pj_cp G S).map (fun r => ((r.1, pc + 3, L, r.2, 0, 0) : pj_T)) else if 10 ≤ inf.getD 0 0 then (pj_mth (inf.getD 0 0) S).map (fun r => (G, pc + 3, L, r, 0, 0)) else (pj_inv c1 inf G S).map (fun r => (r.1, pc + 3, L, r.2.1, r.2.2.1, r.2.2.2))) = some t := h
    show (if inf.getD 0 0 = 7 then (pj_cp G S).map (fun r => ((r.1, pc + 3, L, r.2, 0, 0) : pj_T)) else if 10 ≤ inf.getD 0 0 then (pj_mth (inf.getD 0 0) S).map (fun r => (G, pc + 3, L, r, 0, 0)) else (pj_inv c2 inf G S).map (fun r => (r.1, pc + 3, L, r.2.1, r.2.2.1, r.2.2.2))) = some t
    split at h1
    · rename_i hg
      rw [if_pos hg]
      exact h1
    · rename_i hg
      rw [if_neg hg]
      split at h1
      · rename_i hg2
        rw [if_pos hg2]
        exact h1
      · rename_i hg2
        rw [if_neg hg2]
        exact pj_invm_le hc h1
  all_goals exact h
theorem pj_run_le {c1 c2 : pj_F} (hc : pj_sub c1 c2) {n0 n1 : Nat} {xs x1 : Nat → Int32} (hn : (n0 = n1 ∧ xs = x1) ∨ n0 = 0) {M : pj_M} : ∀ (n m : Nat) (t : pj_T) (r : Option Value × pj_G × Nat × Nat), n ≤ m → pj_run c1 n0 xs M n t = some r → pj_run c2 n1 x1 M m t = some r
  | 0, m, t, r, _, h => by cases (show (none : pj_V) = some r from h)
  | n + 1, 0, t, r, hm, h => absurd hm (by omega)
  | n + 1, m + 1, t, r, hm, h => by
    rw [pj_run_s] at h ⊢
    unfold pj_one at h ⊢
    split at h
    · cases h
    · split at h
      · exact h
      · split at h
        · cases h
        · rename_i r2 hr2
          rw [pj_s_le hc hn hr2]
          exact pj_run_le hc hn n m _ r (by omega) h
theorem pj_to_le {c1 c2 : pj_F} (hc : pj_sub c1 c2) {n0 n1 : Nat} {xs x1 : Nat → Int32} (hn : (n0 = n1 ∧ xs = x1) ∨ n0 = 0) {M : pj_M} {tp : Nat} : ∀ (n m : Nat) (t t' : pj_T), n ≤ m → pj_to c1 n0 xs M tp n t = some t' → pj_to c2 n1 x1 M tp m t = some t'
  | 0, m, t, t', _, h => by cases (show (none : Option pj_T) = some t' from h)
  | n + 1, 0, t, t', hm, h => absurd hm (by omega)
  | n + 1, m + 1, t, t', hm, h => by
    have h : pj_oneT c1 n0 xs M tp (pj_to c1 n0 xs M tp n) t = some t' := h
    show pj_oneT c2 n1 x1 M tp (pj_to c2 n1 x1 M tp m) t = some t'
    unfold pj_oneT at h ⊢
    split at h
    · rename_i hg
      rw [if_pos hg]
      exact h
    · rename_i hg
      rw [if_neg hg]
      split at h
      · cases h
      · split at h
        · cases h
        · rename_i r2 hr2
          rw [pj_s_le hc hn hr2]
          exact pj_to_le hc hn n m _ t' (by omega) h
theorem pj_exec_le {P : List pj_M} {bi : pj_F} {f g : Nat} (hfg : f ≤ g) : ∀ (d k : Nat), d ≤ k → pj_sub (pj_exec P bi f d) (pj_exec P bi g k)
  | 0, k, _ => fun mi vs G r h => by cases (show (none : pj_V) = some r from h)
  | d + 1, 0, hd => absurd hd (by omega)
  | d + 1, k + 1, hd => fun mi vs G r h => by
    have ih := pj_exec_le (P := P) (bi := bi) hfg d k (by omega)
    have h : (match P[mi]? with
      | none => none
      | some M => (match M.2.2.2.2.2 with
        | [] => if 12 ≤ d then bi mi vs G else none
        | _ :: _ => if (lg_sl vs).length ≤ M.2.2.1 then pj_run (pj_exec P bi f d) 0 pj_x0 M f (G, 0, lv_args 0 vs, [], 0, 0) else none)) = some r := h
    show (match P[mi]? with
      | none => none
      | some M => (match M.2.2.2.2.2 with
        | [] => if 12 ≤ k then bi mi vs G else none
        | _ :: _ => if (lg_sl vs).length ≤ M.2.2.1 then pj_run (pj_exec P bi g k) 0 pj_x0 M g (G, 0, lv_args 0 vs, [], 0, 0) else none)) = some r
    split at h
    · cases h
    · split at h
      · split at h
        · rename_i h12
          rw [if_pos (by omega)]
          exact h
        · cases h
      · split at h
        · rename_i hlen
          rw [if_pos hlen]
          exact pj_run_le ih (Or.inl ⟨rfl, rfl⟩) f g _ r hfg h
        · cases h
theorem pj_hcl_le {f g : Nat} (hfg : f ≤ g) {j : Nat} {vs : List Value} {G : pj_G} {r : Option Value × pj_G × Nat × Nat} (h : pj_hcl f j vs G = some r) : pj_hcl g j vs G = some r := by
  obtain ⟨v, G', dc, ds⟩ := r
  obtain ⟨rfl, rfl, rfl, rfl, hh⟩ := pj_hcl_s h
  have hs := pj_exec_le (P := pj_prog) (bi := pj_nat) hfg 998 998 (Nat.le_refl _)
  rcases hh with ⟨rfl, a, o, p0, p1, rfl, hfs, L9, hr⟩ | ⟨rfl, a, o, p0, p1, rfl, hfs, L9, hr⟩ | ⟨rfl, a, o, p0, p1, rfl, hfs, L9, hr⟩ | ⟨rfl, a, o, p0, rfl, hfs, L9, hr⟩
  · exact if_pos (show pj_hx0 g a p0 p1 G from ⟨hfs, L9, pj_to_le hs (Or.inr rfl) f g _ _ hfg hr⟩)
  · exact if_pos (show pj_hx1 g a p0 p1 G from ⟨hfs, L9, pj_to_le hs (Or.inr rfl) f g _ _ hfg hr⟩)
  · exact if_pos (show pj_hx2 g a p0 p1 G from ⟨hfs, L9, pj_to_le hs (Or.inr rfl) f g _ _ hfg hr⟩)
  · exact if_pos (show pj_hx3 g a p0 G from ⟨hfs, L9, pj_to_le hs (Or.inr rfl) f g _ _ hfg hr⟩)
theorem pj_lc_le {f g : Nat} (hfg : f ≤ g) : pj_sub (pj_lc f) (pj_lc g) := fun mi vs G r h => by
  by_cases hm : mi < 1000
  · rw [pj_lc_lo hm] at h ⊢
    exact pj_exec_le hfg 1000 1000 (Nat.le_refl _) mi vs G r h
  · have e1 : mi = 1000 + (mi - 1000) := by omega
    rw [e1, pj_lc_hi] at h ⊢
    exact pj_hcl_le hfg h
/-- a call at a small depth is a call of the law -/
theorem pj_lc_of {f g d mi : Nat} (hfg : f ≤ g) (hd : d ≤ 1000) (hm : mi < 1000) {vs : List Value} {G : pj_G} {r : Option Value × pj_G × Nat × Nat} (h : pj_exec pj_prog pj_nat f d mi vs G = some r) : pj_lc g mi vs G = some r := by
  rw [pj_lc_lo hm]
  exact pj_exec_le hfg d 1000 hd mi vs G r h
/-! RUNS JOINED -/
theorem pj_rt_s {call : pj_F} {n0 : Nat} {xs : Nat → Int32} {nL : Nat} {inf : List Nat} {z : Int} {i : Instr} {pc : Nat} {G : pj_G} {L : pj_L} {S : List Value} {t : pj_T} {ret : Option FieldType} (h : pj_s call n0 xs nL inf z i pc G L S = some t) : pj_rt ret i S = none := by
  cases i
  case ireturn => cases (show (none : Option pj_T) = some t from h)
  case lreturn => cases (show (none : Option pj_T) = some t from h)
  case areturn => cases (show (none : Option pj_T) = some t from h)
  case return_ => cases (show (none : Option pj_T) = some t from h)
  all_goals rfl
theorem pj_to_run {call : pj_F} {n0 : Nat} {xs : Nat → Int32} {M : pj_M} {tp : Nat} : ∀ (n k : Nat) (t t' : pj_T) (r : Option Value × pj_G × Nat × Nat), pj_to call n0 xs M tp n t = some t' → pj_run call n0 xs M k t' = some r → pj_run call n0 xs M (n + k) t = some r
  | 0, k, t, t', r, h, _ => by cases (show (none : Option pj_T) = some t' from h)
  | n + 1, k, t, t', r, h, h2 => by
    have h : pj_oneT call n0 xs M tp (pj_to call n0 xs M tp n) t = some t' := h
    unfold pj_oneT at h
    split at h
    · cases h
      exact pj_run_le (fun _ _ _ _ h => h) (Or.inl ⟨rfl, rfl⟩) k _ _ r (by omega) h2
    · split at h
      · cases h
      · rename_i q hq
        split at h
        · cases h
        · rename_i r2 hr2
          have e1 : n + 1 + k = (n + k) + 1 := by omega
          rw [e1, pj_run_s]
          unfold pj_one
          rw [hq]
          show (match pj_rt M.2.2.2.1 q.1 t.2.2.2.1 with
            | some v => some (v, t.1, t.2.2.2.2.1, t.2.2.2.2.2)
            | none => (match pj_s call n0 xs M.2.2.1 q.2.2.1 q.2.2.2 q.1 t.2.1 t.1 t.2.2.1 t.2.2.2.1 with
              | none => none
              | some r => pj_run call n0 xs M (n + k) (r.1, r.2.1, r.2.2.1, r.2.2.2.1, t.2.2.2.2.1 + r.2.2.2.2.1, t.2.2.2.2.2 + r.2.2.2.2.2))) = some r
          rw [pj_rt_s hr2, hr2]
          exact pj_to_run n k _ t' r h h2
