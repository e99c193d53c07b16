/-! ABSTRACT CALLS -/
def pj_yrt (ret : Option FieldType) (i : Instr) (S : List pj_AV) : Option (Option pj_AV) := match i with
  | .ireturn => (match S with
    | [(.int v, q)] => (match ret with
      | some .int => some (some (.int v, q))
      | some ty => (match q with
        | none => if narrow ty (.int v) = .int v then some (some (.int v, none)) else none
        | some _ => none)
      | none => none)
    | _ => none)
  | .lreturn => (match S, ret with
    | [(.long v, q)], some .long => some (some (.long v, q))
    | _, _ => none)
  | .return_ => (match S, ret with
    | [], none => some none
    | _, _ => none)
  | _ => none
theorem pj_yrt_s {ret : Option FieldType} {i : Instr} {SA : List pj_AV} {S : List Value} {a : Option pj_AV} (h : pj_yrt ret i SA = some a) (hs : pj_gs SA S) : ∃ v, pj_rt ret i S = some v ∧ pj_go a v := by
  cases i
  case ireturn =>
    simp only [pj_yrt] at h
    split at h
    · rename_i x q
      obtain ⟨w, t, rfl, h1, h2⟩ := pj_gs_cons hs
      have h2 := pj_gs_nil h2
      subst h2
      obtain ⟨y, rfl⟩ := pj_ga_int h1
      split at h
      · cases h
        exact ⟨some (.int y), rfl, h1⟩
      · rename_i ty hty
        split at h
        · split at h
          · rename_i hn
            cases h
            have h1 : Value.int y = Value.int x := h1
            cases h1
            refine ⟨some (.int _), ?_, rfl⟩
            cases ty
            case int => rfl
            all_goals exact if_pos hn
          · cases h
        · cases h
      · cases h
    · cases h
  case lreturn =>
    simp only [pj_yrt] at h
    split at h
    · rename_i x q
      cases h
      obtain ⟨w, t, rfl, h1, h2⟩ := pj_gs_cons hs
      have h2 := pj_gs_nil h2
      subst h2
      obtain ⟨y, rfl⟩ := pj_ga_long h1
      exact ⟨some (.long y), rfl, h1⟩
    · cases h
  case return_ =>
    simp only [pj_yrt] at h
    split at h
    · cases h
      have h2 := pj_gs_nil hs
      subst h2
      exact ⟨none, rfl, trivial⟩
    · cases h
  all_goals cases (show (none : Option (Option pj_AV)) = some a from h)
abbrev pj_AW : Type := Option (Option pj_AV × pj_G × Nat × Nat)
def pj_yone (n0 : Nat) (sc : List pj_AV) (ac : pj_AF) (M : pj_M) (ih : pj_AT → pj_AW) (t : pj_AT) : pj_AW := match pj_find M.2.2.2.2.2 t.2.1 with
  | none => none
  | some q => (match pj_yrt M.2.2.2.1 q.1 t.2.2.2.1 with
    | some v => some (v, t.1, t.2.2.2.2.1, t.2.2.2.2.2)
    | none => (match pj_ys n0 sc ac M.2.2.1 q.2.2.1 q.2.2.2 q.1 t.2.1 t.1 t.2.2.1 t.2.2.2.1 with
      | none => none
      | some r => ih (r.1, r.2.1, r.2.2.1, r.2.2.2.1, t.2.2.2.2.1 + r.2.2.2.2.1, t.2.2.2.2.2 + r.2.2.2.2.2)))
noncomputable def pj_yrun (n0 : Nat) (sc : List pj_AV) (ac : pj_AF) (M : pj_M) (n : Nat) : pj_AT → pj_AW := Nat.rec (motive := fun _ => pj_AT → pj_AW) (fun _ => none) (fun _ ih t => pj_yone n0 sc ac M ih t) n
theorem pj_yrun_s {ac : pj_AF} {call : pj_F} (hc : pj_okA ac call) {n0 : Nat} {sc : List pj_AV} {xs : Nat → Int32} (hsc : ∀ (j : Nat) (a : pj_AV), sc[j]? = some a → pj_ga a (.int (xs j))) {M : pj_M} : ∀ (n : Nat) (G : pj_G) (pc : Nat) (A : pj_AL) (SA : List pj_AV) (mc ms : Nat) (L : pj_L) (S : List Value) (r : Option pj_AV × pj_G × Nat × Nat), pj_yrun n0 sc ac M n (G, pc, A, SA, mc, ms) = some r → pj_gl A L → pj_gs SA S → ∃ v, pj_go r.1 v ∧ pj_run call n0 xs M n (G, pc, L, S, mc, ms) = some (v, r.2)
  | 0, G, pc, A, SA, mc, ms, L, S, r, h, _, _ => by cases (show (none : pj_AW) = some r from h)
  | n + 1, G, pc, A, SA, mc, ms, L, S, r, h, hl, hs => by
    replace h : (match pj_find M.2.2.2.2.2 pc with
      | none => none
      | some q => (match pj_yrt M.2.2.2.1 q.1 SA with
        | some v => some (v, G, mc, ms)
        | none => (match pj_ys n0 sc ac M.2.2.1 q.2.2.1 q.2.2.2 q.1 pc G A SA with
          | none => none
          | some r => pj_yrun n0 sc ac M n (r.1, r.2.1, r.2.2.1, r.2.2.2.1, mc + r.2.2.2.2.1, ms + r.2.2.2.2.2)))) = some r := h
    rw [pj_run_s]
    unfold pj_one
    split at h
    · cases h
    · rename_i q hq
      show ∃ v, pj_go r.1 v ∧ (match pj_find M.2.2.2.2.2 pc with
        | none => none
        | some q => (match pj_rt M.2.2.2.1 q.1 S with
          | some v => some (v, G, mc, ms)
          | none => (match pj_s call n0 xs M.2.2.1 q.2.2.1 q.2.2.2 q.1 pc G L S with
            | none => none
            | some r => pj_run call n0 xs M n (r.1, r.2.1, r.2.2.1, r.2.2.2.1, mc + r.2.2.2.2.1, ms + r.2.2.2.2.2)))) = some (v, r.2)
      rw [hq]
      split at h
      · rename_i a ha
        cases h
        obtain ⟨v, h1, h2⟩ := pj_yrt_s ha hs
        refine ⟨v, h2, ?_⟩
        show (match pj_rt M.2.2.2.1 q.1 S with
          | some v => some (v, G, mc, ms)
          | none => _) = _
        rw [h1]
      · split at h
        · cases h
        · rename_i r2 hr2
          obtain ⟨G2, pc2, A2, S2, dc, ds⟩ := r2
          obtain ⟨L2, S3, g1, g2, g3⟩ := pj_ys_s hc hsc hr2 hl hs
          obtain ⟨v, h1, h2⟩ := pj_yrun_s hc hsc n _ _ _ _ _ _ _ _ r h g2 g3
          refine ⟨v, h1, ?_⟩
          show (match pj_rt M.2.2.2.1 q.1 S with
            | some v => some (v, G, mc, ms)
            | none => (match pj_s call n0 xs M.2.2.1 q.2.2.1 q.2.2.2 q.1 pc G L S with
              | none => none
              | some r => pj_run call n0 xs M n (r.1, r.2.1, r.2.2.1, r.2.2.2.1, mc + r.2.2.2.2.1, ms + r.2.2.2.2.2))) = some (v, r.2)
          rw [pj_rt_s g1, g1]
          exact h2
/-- all exact: the pure machine itself -/
def pj_exs : List pj_AV → Option (List Value)
  | [] => some []
  | (v, none) :: t => (pj_exs t).map (fun r => v :: r)
  | _ :: _ => none
theorem pj_exs_s : ∀ {s : List pj_AV} {V W : List Value}, pj_gs s V → pj_exs s = some W → V = W
  | [], V, W, h, e => by cases e; exact pj_gs_nil h
  | (v, none) :: s, V, W, h, e => by
    obtain ⟨w, t, rfl, h1, h2⟩ := pj_gs_cons h
    have e : (pj_exs s).map (fun r => v :: r) = some W := e
    obtain ⟨r, e1, e2⟩ := pj_map e
    have h1 : w = v := h1
    rw [h1, pj_exs_s h2 e1, ← e2]
  | (v, some q) :: s, V, W, h, e => by cases (show (none : Option (List Value)) = some W from e)
noncomputable def pj_yexec (P : List pj_M) (bi : pj_F) (f d : Nat) : pj_AF := Nat.rec (motive := fun _ => pj_AF) (fun _ _ _ => none) (fun k ih mi as G => match pj_exs as with
  | some vs => (pj_exec P bi f (k + 1) mi vs G).map (fun r => (r.1.map (fun v => (v, none)), r.2))
  | none => (match P[mi]? with
    | none => none
    | some M => (match M.2.2.2.2.2 with
      | [] => none
      | _ :: _ => if (as.map (fun a => if a.1.category = 2 then 2 else 1)).sum ≤ M.2.2.1 then pj_yrun 0 [] ih M f (G, 0, pj_yargs 0 as, [], 0, 0) else none))) d
theorem pj_sl_cat : ∀ {s : List pj_AV} {V : List Value}, pj_gs s V → (lg_sl V).length = (s.map (fun a => if a.1.category = 2 then 2 else 1)).sum
  | [], V, h => by rw [pj_gs_nil h]; rfl
  | a :: s, V, h => by
    obtain ⟨v, t, rfl, h1, h2⟩ := pj_gs_cons h
    have h3 := pj_sl_cat h2
    unfold lg_sl at h3 ⊢
    rw [List.flatMap_cons, List.length_append, h3, List.map_cons, List.sum_cons, pj_ga_cat h1]
    split <;> rfl
theorem pj_yexec_s {P : List pj_M} {bi : pj_F} {f : Nat} : ∀ d : Nat, pj_okA (pj_yexec P bi f d) (pj_exec P bi f d)
  | 0 => fun mi as G vs r hg h => by cases (show (none : pj_AW) = some r from h)
  | d + 1 => fun mi as G vs r hg h => by
    have ih := pj_yexec_s (P := P) (bi := bi) (f := f) d
    replace h : (match pj_exs as with
      | some vs => (pj_exec P bi f (d + 1) mi vs G).map (fun r => ((r.1.map (fun v => (v, none)), r.2) : Option pj_AV × pj_G × Nat × Nat))
      | none => (match P[mi]? with
        | none => none
        | some M => (match M.2.2.2.2.2 with
          | [] => none
          | _ :: _ => if (as.map (fun a => if a.1.category = 2 then 2 else 1)).sum ≤ M.2.2.1 then pj_yrun 0 [] (pj_yexec P bi f d) M f (G, 0, pj_yargs 0 as, [], 0, 0) else none))) = some r := h
    split at h
    · rename_i ws hw
      have e := pj_exs_s hg hw
      subst e
      obtain ⟨r2, h1, h2⟩ := pj_map h
      obtain ⟨v, G2, dc, ds⟩ := r2
      cases h2
      refine ⟨v, ?_, h1⟩
      cases v with
      | none => exact trivial
      | some v => exact rfl
    · split at h
      · cases h
      · rename_i M hM
        split at h
        · cases h
        · rename_i q qs hq
          split at h
          · rename_i hlen
            obtain ⟨v, h1, h2⟩ := pj_yrun_s ih (fun j a h => by cases h) f _ _ _ _ _ _ (lv_args 0 vs) [] r h (pj_yargs_s 0 hg) trivial
            refine ⟨v, h1, ?_⟩
            show (match P[mi]? with
              | none => none
              | some M => (match M.2.2.2.2.2 with
                | [] => if 12 ≤ d then bi mi vs G else none
                | _ :: _ => if (lg_sl vs).length ≤ M.2.2.1 then pj_run (pj_exec P bi f d) 0 pj_x0 M f (G, 0, lv_args 0 vs, [], 0, 0) else none)) = some (v, r.2)
            rw [hM]
            show (match M.2.2.2.2.2 with
                | [] => if 12 ≤ d then bi mi vs G else none
                | _ :: _ => if (lg_sl vs).length ≤ M.2.2.1 then pj_run (pj_exec P bi f d) 0 pj_x0 M f (G, 0, lv_args 0 vs, [], 0, 0) else none) = some (v, r.2)
            rw [hq]
            show (if (lg_sl vs).length ≤ M.2.2.1 then pj_run (pj_exec P bi f d) 0 pj_x0 M f (G, 0, lv_args 0 vs, [], 0, 0) else none) = some (v, r.2)
            rw [pj_sl_cat hg, if_pos hlen]
            exact h2
          · cases h
