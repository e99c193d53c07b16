/-! FEWER LOCALS, IN ANOTHER ORDER -/
def pj_le (A B : pj_L) : Prop := ∀ i v, pj_ld A i = some v → pj_ld B i = some v
def pj_nd (A : pj_L) : Prop := (A.map (fun q => q.1)).Nodup
theorem pj_ld_none {A : pj_L} {i : Nat} (h : i ∉ A.map (fun q => q.1)) : pj_ld A i = none := by
  induction A with
  | nil => rfl
  | cons q t ih =>
    obtain ⟨k, w⟩ := q
    rw [List.map_cons, List.mem_cons, not_or] at h
    simp only [pj_ld]
    rw [if_neg (fun e => h.1 e.symm)]
    exact ih h.2
theorem pj_ld_filter {f : Nat × Value → Bool} : ∀ {A : pj_L} {i : Nat} {v : Value}, pj_nd A → pj_ld (A.filter f) i = some v → pj_ld A i = some v ∧ f (i, v) = true
  | [], i, v, _, h => by cases h
  | (k, w) :: t, i, v, hn, h => by
    have hn2 : k ∉ t.map (fun q => q.1) ∧ pj_nd t := List.nodup_cons.mp hn
    rw [List.filter_cons] at h
    split at h
    · rename_i hf
      simp only [pj_ld] at h ⊢
      split at h
      · rename_i e
        cases h
        subst e
        rw [if_pos rfl]
        exact ⟨rfl, hf⟩
      · rename_i e
        rw [if_neg e]
        exact pj_ld_filter hn2.2 h
    · obtain ⟨h1, h2⟩ := pj_ld_filter hn2.2 h
      simp only [pj_ld]
      by_cases e : k = i
      · subst e
        rw [pj_ld_none hn2.1] at h1
        cases h1
      · rw [if_neg e]
        exact ⟨h1, h2⟩
theorem pj_ld_keep {f : Nat × Value → Bool} : ∀ {A : pj_L} {i : Nat} {v : Value}, pj_ld A i = some v → f (i, v) = true → pj_ld (A.filter f) i = some v
  | [], i, v, h, _ => by cases h
  | (k, w) :: t, i, v, h, hf => by
    simp only [pj_ld] at h
    rw [List.filter_cons]
    split at h
    · rename_i e
      cases h
      subst e
      rw [if_pos hf]
      show (if k = k then some w else _) = some w
      exact if_pos rfl
    · rename_i e
      split
      · simp only [pj_ld]
        rw [if_neg e]
        exact pj_ld_keep h hf
      · exact pj_ld_keep h hf
theorem pj_nd_filter {f : Nat × Value → Bool} {A : pj_L} (h : pj_nd A) : pj_nd (A.filter f) := by
  unfold pj_nd at h ⊢
  exact List.Nodup.sublist (List.Sublist.map _ List.filter_sublist) h
theorem pj_le_st {A B : pj_L} {f : Nat × Value → Bool} {i : Nat} {w : Value} (hf : ∀ v, f (i, v) = false) (hl : pj_le A B) (hn : pj_nd A) : pj_le ((i, w) :: A.filter f) ((i, w) :: B.filter f) ∧ pj_nd ((i, w) :: A.filter f) := by
  refine ⟨fun j v h => ?_, ?_⟩
  · simp only [pj_ld] at h ⊢
    split at h
    · rename_i e
      rw [if_pos e]
      exact h
    · rename_i e
      rw [if_neg e]
      obtain ⟨h1, h2⟩ := pj_ld_filter hn h
      exact pj_ld_keep (hl j v h1) h2
  · refine List.nodup_cons.mpr ⟨fun hm => ?_, pj_nd_filter hn⟩
    obtain ⟨q, hq, e⟩ := List.mem_map.mp hm
    have h2 := (List.mem_filter.mp hq).2
    obtain ⟨k, v⟩ := q
    have e : k = i := e
    subst e
    rw [hf v] at h2
    cases h2
theorem pj_f1_i (i : Nat) (v : Value) : pj_f1 i (i, v) = false := by
  simp [pj_f1]
theorem pj_f2_i (i : Nat) (v : Value) : pj_f2 i (i, v) = false := by
  simp [pj_f2]
theorem pj_kl_le {nL : Nat} {i : Instr} {A B A' : pj_L} {S S' : List Value} (hl : pj_le A B) (hn : pj_nd A) (h : pj_kl nL i A S = some (A', S')) : ∃ B', pj_kl nL i B S = some (B', S') ∧ pj_le A' B' ∧ pj_nd A' := by
  have gli : ∀ k, pj_li A k S = some (A', S') → ∃ B', pj_li B k S = some (B', S') ∧ pj_le A' B' ∧ pj_nd A' := fun k h => by
    unfold pj_li at h
    split at h
    · rename_i x hy
      cases h
      refine ⟨B, ?_, hl, hn⟩
      unfold pj_li
      rw [hl _ _ hy]
    · cases h
  have gll : ∀ k, pj_ll A k S = some (A', S') → ∃ B', pj_ll B k S = some (B', S') ∧ pj_le A' B' ∧ pj_nd A' := fun k h => by
    unfold pj_ll at h
    split at h
    · rename_i x hy
      cases h
      refine ⟨B, ?_, hl, hn⟩
      unfold pj_ll
      rw [hl _ _ hy]
    · cases h
  have gla : ∀ k, pj_la A k S = some (A', S') → ∃ B', pj_la B k S = some (B', S') ∧ pj_le A' B' ∧ pj_nd A' := fun k h => by
    unfold pj_la at h
    split at h
    · rename_i x hy
      cases h
      refine ⟨B, ?_, hl, hn⟩
      unfold pj_la
      rw [hl _ _ hy]
    · rename_i x hy
      cases h
      refine ⟨B, ?_, hl, hn⟩
      unfold pj_la
      rw [hl _ _ hy]
    · cases h
  have gsi : ∀ k, pj_si nL A k S = some (A', S') → ∃ B', pj_si nL B k S = some (B', S') ∧ pj_le A' B' ∧ pj_nd A' := fun k h => by
    unfold pj_si at h
    split at h
    · split at h
      · rename_i hk
        cases h
        obtain ⟨h1, h2⟩ := pj_le_st (w := _) (pj_f1_i k) hl hn
        exact ⟨_, if_pos hk, h1, h2⟩
      · cases h
    · cases h
  have gsl : ∀ k, pj_sl nL A k S = some (A', S') → ∃ B', pj_sl nL B k S = some (B', S') ∧ pj_le A' B' ∧ pj_nd A' := fun k h => by
    unfold pj_sl at h
    split at h
    · split at h
      · rename_i hk
        cases h
        obtain ⟨h1, h2⟩ := pj_le_st (w := _) (pj_f2_i k) hl hn
        exact ⟨_, if_pos hk, h1, h2⟩
      · cases h
    · cases h
  have gsa : ∀ k, pj_sa nL A k S = some (A', S') → ∃ B', pj_sa nL B k S = some (B', S') ∧ pj_le A' B' ∧ pj_nd A' := fun k h => by
    unfold pj_sa at h
    split at h
    · split at h
      · rename_i hk
        cases h
        obtain ⟨h1, h2⟩ := pj_le_st (w := _) (pj_f1_i k) hl hn
        exact ⟨_, if_pos hk, h1, h2⟩
      · cases h
    · cases h
  have gic : ∀ k n, pj_ic nL A k n S = some (A', S') → ∃ B', pj_ic nL B k n S = some (B', S') ∧ pj_le A' B' ∧ pj_nd A' := fun k n h => by
    unfold pj_ic at h
    split at h
    · rename_i x hy
      split at h
      · rename_i hk
        cases h
        obtain ⟨h1, h2⟩ := pj_le_st (w := .int (x + Int32.ofInt n)) (pj_f1_i k) hl hn
        refine ⟨_, ?_, h1, h2⟩
        unfold pj_ic
        rw [hl _ _ hy]
        exact if_pos hk
      · cases h
    · cases h
  cases i
  case iload_n k => exact gli k h
  case iload k => exact gli k h
  case lload_n k => exact gll k h
  case lload k => exact gll k h
  case aload_n k => exact gla k h
  case aload k => exact gla k h
  case istore_n k => exact gsi k h
  case istore k => exact gsi k h
  case lstore_n k => exact gsl k h
  case lstore k => exact gsl k h
  case astore_n k => exact gsa k h
  case astore k => exact gsa k h
  case iinc k n => exact gic k n h
  all_goals cases (show (none : Option (pj_L × List Value)) = some (A', S') from h)
theorem pj_opm {α : Type} {x : Option α} {f g : α → pj_T} {t : pj_T} (h : x.map f = some t) {B : pj_L} (hfg : ∀ a, g a = ((f a).1, (f a).2.1, B, (f a).2.2.2)) : x.map g = some (t.1, t.2.1, B, t.2.2.2) := by
  obtain ⟨a, h1, h2⟩ := pj_map h
  rw [h1]
  show some (g a) = _
  rw [hfg a, h2]
set_option maxHeartbeats 4000000 in
theorem pj_s_sub {call : pj_F} {n0 : Nat} {xs : Nat → Int32} {nL : Nat} {inf : List Nat} {z : Int} {i : Instr} {pc : Nat} {G : pj_G} {A B : pj_L} {S : List Value} {t : pj_T} (hl : pj_le A B) (hn : pj_nd A) (h : pj_s call n0 xs nL inf z i pc G A S = some t) : ∃ B', pj_s call n0 xs nL inf z i pc G B S = some (t.1, t.2.1, B', t.2.2.2) ∧ pj_le t.2.2.1 B' ∧ pj_nd t.2.2.1 := by
  have gk : ∀ (j : Instr) (n : Nat), (pj_kl nL j A S).map (fun r => ((G, n, r.1, r.2, 0, 0) : pj_T)) = some t → ∃ B', (pj_kl nL j B S).map (fun r => ((G, n, r.1, r.2, 0, 0) : pj_T)) = some (t.1, t.2.1, B', t.2.2.2) ∧ pj_le t.2.2.1 B' ∧ pj_nd t.2.2.1 := fun j n h => by
    obtain ⟨r, h1, h2⟩ := pj_map h
    subst h2
    obtain ⟨B', h3, h4, h5⟩ := pj_kl_le (A' := r.1) (S' := r.2) hl hn h1
    refine ⟨B', ?_, h4, h5⟩
    rw [h3]
    rfl
  have gp : ∀ {α : Type} {x : Option α} {f : pj_L → α → pj_T}, (x.map (f A)) = some t → (∀ a L, f L a = ((f A a).1, (f A a).2.1, L, (f A a).2.2.2)) → ∃ B', x.map (f B) = some (t.1, t.2.1, B', t.2.2.2) ∧ pj_le t.2.2.1 B' ∧ pj_nd t.2.2.1 := fun {α} {x} {f} h hf => by
    obtain ⟨a, h1, h2⟩ := pj_map h
    refine ⟨B, ?_, ?_⟩
    · rw [h1]
      show some (f B a) = _
      rw [hf a B, h2]
    · rw [← h2, hf a A]
      exact ⟨hl, hn⟩
  have gq : ∀ (j : Instr) (n : Nat), (pj_k j S).map (fun r => ((G, n, A, r, 0, 0) : pj_T)) = some t → ∃ B', (pj_k j S).map (fun r => ((G, n, B, r, 0, 0) : pj_T)) = some (t.1, t.2.1, B', t.2.2.2) ∧ pj_le t.2.2.1 B' ∧ pj_nd t.2.2.1 := fun j n h => gp (f := fun L (r : List Value) => (G, n, L, r, 0, 0)) h (fun _ _ => rfl)
  cases i
  case iload_n k => exact gk _ _ h
  case iload k => exact gk _ _ h
  case lload_n k => exact gk _ _ h
  case lload k => exact gk _ _ h
  case aload_n k => exact gk _ _ h
  case aload k => exact gk _ _ h
  case istore_n k => exact gk _ _ h
  case istore k => exact gk _ _ h
  case lstore_n k => exact gk _ _ h
  case lstore k => exact gk _ _ h
  case astore_n k => exact gk _ _ h
  case astore k => exact gk _ _ h
  case iinc k n => exact gk (.iinc k n) _ h
  case ldc q => cases h; exact ⟨B, rfl, hl, hn⟩
  case ldc_w q => cases h; exact ⟨B, rfl, hl, hn⟩
  case ldc2_w q => cases h; exact ⟨B, rfl, hl, hn⟩
  case iaload =>
    have h : (match pj_sc n0 xs S with
      | some r => some (G, pc + 1, A, r, 0, 0)
      | none => (pj_rdi G S).map (fun r => ((G, pc + 1, A, r, 0, 0) : pj_T))) = some t := h
    show ∃ B', (match pj_sc n0 xs S with
      | some r => some (G, pc + 1, B, r, 0, 0)
      | none => (pj_rdi G S).map (fun r => ((G, pc + 1, B, r, 0, 0) : pj_T))) = some (t.1, t.2.1, B', t.2.2.2) ∧ _
    split at h
    · rename_i q hq
      cases h
      exact ⟨B, rfl, hl, hn⟩
    · rename_i hq
      exact gp (f := fun L (r : List Value) => (G, pc + 1, L, r, 0, 0)) h (fun _ _ => rfl)
  case invokespecial q =>
    have h : (if inf.getD 0 0 = 6 then (pj_oi S).map (fun r => ((G, pc + 3, A, r, 0, 0) : pj_T)) else (pj_inv call inf G S).map (fun r => (r.1, pc + 3, A, r.2.1, r.2.2.1, r.2.2.2))) = some t := h
    show ∃ B', (if inf.getD 0 0 = 6 then (pj_oi S).map (fun r => ((G, pc + 3, B, r, 0, 0) : pj_T)) else (pj_inv call inf G S).map (fun r => (r.1, pc + 3, B, r.2.1, r.2.2.1, r.2.2.2))) = some (t.1, t.2.1, B', t.2.2.2) ∧ _
    split at h
    · rename_i hq
      rw [if_pos hq]
      exact gp (f := fun L (r : List Value) => (G, pc + 3, L, r, 0, 0)) h (fun _ _ => rfl)
    · rename_i hq
      rw [if_neg hq]
      exact gp (f := fun L (r : pj_G × List Value × Nat × Nat) => (r.1, pc + 3, L, r.2.1, r.2.2.1, r.2.2.2)) h (fun _ _ => rfl)
  case invokestatic q =>
    have h : (if inf.getD 0 0 = 7 then (pj_cp G S).map (fun r => ((r.1, pc + 3, A, r.2, 0, 0) : pj_T)) else if 10 ≤ inf.getD 0 0 then (pj_mth (inf.getD 0 0) S).map (fun r => (G, pc + 3, A, r, 0, 0)) else (pj_inv call inf G S).map (fun r => (r.1, pc + 3, A, r.2.1, r.2.2.1, r.2.2.2))) = some t := h
    show ∃ B', (if inf.getD 0 0 = 7 then (pj_cp G S).map (fun r => ((r.1, pc + 3, B, r.2, 0, 0) : pj_T)) else if 10 ≤ inf.getD 0 0 then (pj_mth (inf.getD 0 0) S).map (fun r => (G, pc + 3, B, r, 0, 0)) else (pj_inv call inf G S).map (fun r => (r.1, pc + 3, B, r.2.1, r.2.2.1, r.2.2.2))) = some (t.1, t.2.1, B', t.2.2.2) ∧ _
    split at h
    · rename_i hq
      rw [if_pos hq]
      exact gp (f := fun L (r : pj_G × List Value) => (r.1, pc + 3, L, r.2, 0, 0)) h (fun _ _ => rfl)
    · rename_i hq
      rw [if_neg hq]
      split at h
      · rename_i hq
        rw [if_pos hq]
        exact gp (f := fun L (r : List Value) => (G, pc + 3, L, r, 0, 0)) h (fun _ _ => rfl)
      · rename_i hq
        rw [if_neg hq]
        exact gp (f := fun L (r : pj_G × List Value × Nat × Nat) => (r.1, pc + 3, L, r.2.1, r.2.2.1, r.2.2.2)) h (fun _ _ => rfl)
  case getfield q => exact gp (f := fun L (r : List Value) => (G, pc + 3, L, r, 0, 0)) h (fun _ _ => rfl)
  case putfield q => exact gp (f := fun L (r : pj_G × List Value) => (r.1, pc + 3, L, r.2, 0, 0)) h (fun _ _ => rfl)
  case baload => exact gp (f := fun L (r : List Value) => (G, pc + 1, L, r, 0, 0)) h (fun _ _ => rfl)
  case laload => exact gp (f := fun L (r : List Value) => (G, pc + 1, L, r, 0, 0)) h (fun _ _ => rfl)
  case aaload => exact gp (f := fun L (r : List Value) => (G, pc + 1, L, r, 0, 0)) h (fun _ _ => rfl)
  case iastore => exact gp (f := fun L (r : pj_G × List Value) => (r.1, pc + 1, L, r.2, 0, 0)) h (fun _ _ => rfl)
  case bastore => exact gp (f := fun L (r : pj_G × List Value) => (r.1, pc + 1, L, r.2, 0, 0)) h (fun _ _ => rfl)
  case lastore => exact gp (f := fun L (r : pj_G × List Value) => (r.1, pc + 1, L, r.2, 0, 0)) h (fun _ _ => rfl)
  case aastore => exact gp (f := fun L (r : pj_G × List Value) => (r.1, pc + 1, L, r.2, 0, 0)) h (fun _ _ => rfl)
  case arraylength => exact gp (f := fun L (r : List Value) => (G, pc + 1, L, r, 0, 0)) h (fun _ _ => rfl)
  case new q => exact gp (f := fun L (r : pj_G × List Value × Nat) => (r.1, pc + 3, L, r.2.1, 1, r.2.2)) h (fun _ _ => rfl)
  case newarray q => exact gp (f := fun L (r : pj_G × List Value × Nat) => (r.1, pc + 2, L, r.2.1, 1, r.2.2)) h (fun _ _ => rfl)
  case anewarray q => exact gp (f := fun L (r : pj_G × List Value × Nat) => (r.1, pc + 3, L, r.2.1, 1, r.2.2)) h (fun _ _ => rfl)
  case invokevirtual q => exact gp (f := fun L (r : pj_G × List Value × Nat × Nat) => (r.1, pc + 3, L, r.2.1, r.2.2.1, r.2.2.2)) h (fun _ _ => rfl)
  case goto q => cases h; exact ⟨B, rfl, hl, hn⟩
  case ifCond q1 q2 => exact gp (f := fun L (r : Nat × List Value) => (G, r.1, L, r.2, 0, 0)) h (fun _ _ => rfl)
  case if_icmp q1 q2 => exact gp (f := fun L (r : Nat × List Value) => (G, r.1, L, r.2, 0, 0)) h (fun _ _ => rfl)
  case tableswitch q1 q2 q3 q4 => exact gp (f := fun L (r : Nat × List Value) => (G, r.1, L, r.2, 0, 0)) h (fun _ _ => rfl)
  case lookupswitch q1 q2 => exact gp (f := fun L (r : Nat × List Value) => (G, r.1, L, r.2, 0, 0)) h (fun _ _ => rfl)
  all_goals (simp only [pj_s] at h ⊢; exact gq _ _ h)
theorem pj_run_lsub {call : pj_F} {n0 : Nat} {xs : Nat → Int32} {M : pj_M} : ∀ (n : Nat) (G : pj_G) (pc : Nat) (A B : pj_L) (S : List Value) (mc ms : Nat) (r : Option Value × pj_G × Nat × Nat), pj_le A B → pj_nd A → pj_run call n0 xs M n (G, pc, A, S, mc, ms) = some r → pj_run call n0 xs M n (G, pc, B, S, mc, ms) = some r
  | 0, G, pc, A, B, S, mc, ms, r, _, _, h => by cases (show (none : pj_V) = some r from h)
  | n + 1, G, pc, A, B, S, mc, ms, r, hl, hn, h => by
    rw [pj_run_s] at h ⊢
    unfold pj_one at h ⊢
    dsimp only at h ⊢
    split at h
    · cases h
    · rename_i q hq
      try rw [hq]
      try dsimp only
      split at h
      · rename_i v hv
        try rw [hv]
        exact h
      · rename_i hv
        try rw [hv]
        try dsimp only
        split at h
        · cases h
        · rename_i t ht
          obtain ⟨B', h1, h2, h3⟩ := pj_s_sub hl hn ht
          rw [h1]
          exact pj_run_lsub n _ _ _ _ _ _ _ r h2 h3 h
def pj_inL (B : pj_L) : pj_L → Prop
  | [] => True
  | (i, v) :: t => pj_ld B i = some v ∧ pj_inL B t
theorem pj_inL_le {B : pj_L} : ∀ {A : pj_L}, pj_inL B A → pj_le A B
  | [], _ => fun i v h => by cases h
  | (k, w) :: t, h => fun i v hv => by
    simp only [pj_ld] at hv
    split at hv
    · rename_i e
      cases hv
      subst e
      exact h.1
    · exact pj_inL_le h.2 i v hv
theorem pj_X_sub {d : Nat} {M : pj_M} {G : pj_G} {pc : Nat} {S : List Value} {P : Option Value → pj_G → Prop} {B : pj_L} (A : pj_L) (hn : pj_nd A) (hl : pj_inL B A) (hx : pj_X d M G pc A S P) : pj_X d M G pc B S P := by
  obtain ⟨v, G', ⟨f, n, h1⟩, h2⟩ := hx
  exact ⟨v, G', ⟨f, n, pj_run_lsub n _ _ _ _ _ _ _ _ (pj_inL_le hl) hn h1⟩, h2⟩
