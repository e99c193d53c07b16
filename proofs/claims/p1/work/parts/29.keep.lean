/-! THE LAW'S HELPERS THAT CATCH, BY INTERVALS: runs that write nothing -/
def pj_roi : Instr → Bool
  | .putfield _ => false
  | _ => true
abbrev pj_kp (ac : pj_AF) : Prop := ∀ (mi : Nat) (as : List pj_AV) (G : pj_G) (r : Option pj_AV × pj_G × Nat × Nat), ac mi as G = some r → r.2 = (G, 0, 0)
theorem pj_yinv_kp {ac : pj_AF} (hk : pj_kp ac) {inf : List Nat} {G : pj_G} {S : List pj_AV} {r : pj_G × List pj_AV × Nat × Nat} (h : pj_yinv ac inf G S = some r) : r.1 = G ∧ r.2.2.1 = 0 ∧ r.2.2.2 = 0 := by
  unfold pj_yinv at h
  split at h
  · split at h
    · rename_i q hq
      cases h
      have e := hk _ _ _ _ hq
      rw [e]
      exact ⟨rfl, rfl, rfl⟩
    · cases h
  · cases h
set_option maxHeartbeats 4000000 in
theorem pj_ys_kp {ac : pj_AF} (hk : pj_kp ac) {n0 : Nat} {sc : List pj_AV} {nL : Nat} {inf : List Nat} {z : Int} {i : Instr} {pc : Nat} {G : pj_G} {A : pj_AL} {SA : List pj_AV} {r : pj_AT} (hi : pj_roi i = true) (h : pj_ys n0 sc ac nL inf z i pc G A SA = some r) : r.1 = G ∧ r.2.2.2.2.1 = 0 ∧ r.2.2.2.2.2 = 0 := by
  have gi : (pj_yinv ac inf G SA).map (fun r => ((r.1, pc + 3, A, r.2.1, r.2.2.1, r.2.2.2) : pj_AT)) = some r → r.1 = G ∧ r.2.2.2.2.1 = 0 ∧ r.2.2.2.2.2 = 0 := fun h => by
    obtain ⟨q, h1, h2⟩ := pj_map h
    subst h2
    exact pj_yinv_kp hk h1
  cases i
  case putfield q => cases hi
  case invokevirtual q => exact gi h
  case invokespecial q =>
    simp only [pj_ys] at h
    split at h
    · cases h
    · exact gi h
  case invokestatic q =>
    simp only [pj_ys] at h
    split at h
    · cases h
    · split at h
      · cases h
      · exact gi h
  case ldc q => cases h; exact ⟨rfl, rfl, rfl⟩
  case ldc_w q => cases h; exact ⟨rfl, rfl, rfl⟩
  case ldc2_w q => cases h; exact ⟨rfl, rfl, rfl⟩
  case goto q => cases h; exact ⟨rfl, rfl, rfl⟩
  all_goals try (cases (show (none : Option pj_AT) = some r from h))
  all_goals simp only [pj_ys] at h
  all_goals try (split at h)
  all_goals try (split at h)
  all_goals try (split at h)
  all_goals try (split at h)
  all_goals first
    | (cases h; done)
    | (cases h; exact ⟨rfl, rfl, rfl⟩)
    | (obtain ⟨q, -, h2⟩ := pj_map h; subst h2; exact ⟨rfl, rfl, rfl⟩)
def pj_zone (ac : pj_AF) (M : pj_M) (ih : pj_AT → pj_AW) (t : pj_AT) : pj_AW := match pj_find M.2.2.2.2.2 t.2.1 with
  | none => none
  | some q => (match pj_yrt M.2.2.2.1 q.1 t.2.2.2.1 with
    | some v => some (v, t.1, t.2.2.2.2.1, t.2.2.2.2.2)
    | none => if pj_roi q.1 = true then (match pj_ys 0 [] ac M.2.2.1 q.2.2.1 q.2.2.2 q.1 t.2.1 t.1 t.2.2.1 t.2.2.2.1 with
      | none => none
      | some r => ih (r.1, r.2.1, r.2.2.1, r.2.2.2.1, t.2.2.2.2.1 + r.2.2.2.2.1, t.2.2.2.2.2 + r.2.2.2.2.2)) else none)
noncomputable def pj_zrun (ac : pj_AF) (M : pj_M) (n : Nat) : pj_AT → pj_AW := Nat.rec (motive := fun _ => pj_AT → pj_AW) (fun _ => none) (fun _ ih t => pj_zone ac M ih t) n
theorem pj_zrun_y {ac : pj_AF} (hk : pj_kp ac) {M : pj_M} : ∀ (n : Nat) (t : pj_AT) (r : Option pj_AV × pj_G × Nat × Nat), pj_zrun ac M n t = some r → pj_yrun 0 [] ac M n t = some r ∧ r.2 = (t.1, t.2.2.2.2.1, t.2.2.2.2.2)
  | 0, t, r, h => by cases (show (none : pj_AW) = some r from h)
  | n + 1, t, r, h => by
    have h : pj_zone ac M (pj_zrun ac M n) t = some r := h
    show pj_yone 0 [] ac M (pj_yrun 0 [] ac M n) t = some r ∧ _
    unfold pj_zone at h
    unfold pj_yone
    split at h
    · cases h
    · rename_i q hq
      split at h
      · rename_i v hv
        refine ⟨?_, by cases h; rfl⟩
        simp only [hq, hv]
        exact h
      · rename_i hv
        split at h
        · rename_i hro
          split at h
          · cases h
          · rename_i r2 hr2
            obtain ⟨h1, h2⟩ := pj_zrun_y hk n _ r h
            obtain ⟨k1, k2, k3⟩ := pj_ys_kp hk hro hr2
            refine ⟨?_, ?_⟩
            · simp only [hq, hv, hr2]
              exact h1
            · rw [h2]
              show (r2.1, t.2.2.2.2.1 + r2.2.2.2.2.1, t.2.2.2.2.2 + r2.2.2.2.2.2) = _
              rw [k1, k2, k3]
              rfl
        · cases h
noncomputable def pj_zexec (P : List pj_M) (f d : Nat) : pj_AF := Nat.rec (motive := fun _ => pj_AF) (fun _ _ _ => none) (fun _ ih mi as G => match P[mi]? with
    | none => none
    | some M => (match M.2.2.2.2.2 with
      | [] => none
      | _ :: _ => if (as.map (fun a => if a.1.category = 2 then 2 else 1)).sum ≤ M.2.2.1 then pj_zrun ih M f (G, 0, pj_yargs 0 as, [], 0, 0) else none)) d
theorem pj_zexec_s {P : List pj_M} {bi : pj_F} {f : Nat} : ∀ d : Nat, pj_okA (pj_zexec P f d) (pj_exec P bi f d) ∧ pj_kp (pj_zexec P f d)
  | 0 => ⟨fun mi as G vs r hg h => (by cases (show (none : pj_AW) = some r from h)), fun mi as G r h => (by cases (show (none : pj_AW) = some r from h))⟩
  | d + 1 => by
    obtain ⟨ih, ik⟩ := pj_zexec_s (P := P) (bi := bi) (f := f) d
    have key : ∀ (mi : Nat) (as : List pj_AV) (G : pj_G) (r : Option pj_AV × pj_G × Nat × Nat), pj_zexec P f (d + 1) mi as G = some r → ∃ M q qs, P[mi]? = some M ∧ M.2.2.2.2.2 = q :: qs ∧ (as.map (fun a => if a.1.category = 2 then 2 else 1)).sum ≤ M.2.2.1 ∧ pj_zrun (pj_zexec P f d) M f (G, 0, pj_yargs 0 as, [], 0, 0) = some r := fun mi as G r h => by
      replace h : (match P[mi]? with
        | none => none
        | some M => (match M.2.2.2.2.2 with
          | [] => none
          | _ :: _ => if (as.map (fun a => if a.1.category = 2 then 2 else 1)).sum ≤ M.2.2.1 then pj_zrun (pj_zexec P f d) M f (G, 0, pj_yargs 0 as, [], 0, 0) else none)) = some r := h
      split at h
      · cases h
      · rename_i M hM
        split at h
        · cases h
        · rename_i q qs hq
          split at h
          · rename_i hlen
            exact ⟨M, q, qs, hM, hq, hlen, h⟩
          · cases h
    refine ⟨fun mi as G vs r hg h => ?_, fun mi as G r h => ?_⟩
    · obtain ⟨M, q, qs, hM, hq, hlen, hz⟩ := key mi as G r h
      obtain ⟨v, h1, h2⟩ := pj_yrun_s ih (fun j a h => by cases h) f _ _ _ _ _ _ (lv_args 0 vs) [] r (pj_zrun_y ik f _ r hz).1 (pj_yargs_s 0 hg) trivial
      refine ⟨v, h1, ?_⟩
      show (match P[mi]? with
        | none => none
        | some M => (match M.2.2.2.2.2 with
          | [] => if 12 ≤ d then bi mi vs G else none
          | _ :: _ => if (lg_sl vs).length ≤ M.2.2.1 then pj_run (pj_exec P bi f d) 0 pj_x0 M f (G, 0, lv_args 0 vs, [], 0, 0) else none)) = some (v, r.2)
      rw [hM]
      show (match M.2.2.2.2.2 with
          | [] => if 12 ≤ d then bi mi vs G else none
          | _ :: _ => if (lg_sl vs).length ≤ M.2.2.1 then pj_run (pj_exec P bi f d) 0 pj_x0 M f (G, 0, lv_args 0 vs, [], 0, 0) else none) = some (v, r.2)
      rw [hq]
      show (if (lg_sl vs).length ≤ M.2.2.1 then pj_run (pj_exec P bi f d) 0 pj_x0 M f (G, 0, lv_args 0 vs, [], 0, 0) else none) = some (v, r.2)
      rw [pj_sl_cat hg, if_pos hlen]
      exact h2
    · obtain ⟨M, q, qs, hM, hq, hlen, hz⟩ := key mi as G r h
      exact (pj_zrun_y ik f _ r hz).2
/-- up to a place -/
def pj_zoneT (ac : pj_AF) (M : pj_M) (tp : Nat) (ih : pj_AT → Option pj_AT) (t : pj_AT) : Option pj_AT := if t.2.1 = tp then some t else (match pj_find M.2.2.2.2.2 t.2.1 with
  | none => none
  | some q => if pj_roi q.1 = true then (match pj_ys 0 [] ac M.2.2.1 q.2.2.1 q.2.2.2 q.1 t.2.1 t.1 t.2.2.1 t.2.2.2.1 with
    | none => none
    | some r => ih (r.1, r.2.1, r.2.2.1, r.2.2.2.1, t.2.2.2.2.1 + r.2.2.2.2.1, t.2.2.2.2.2 + r.2.2.2.2.2)) else none)
noncomputable def pj_zto (ac : pj_AF) (M : pj_M) (tp n : Nat) : pj_AT → Option pj_AT := Nat.rec (motive := fun _ => pj_AT → Option pj_AT) (fun _ => none) (fun _ ih t => pj_zoneT ac M tp ih t) n
theorem pj_zto_s {ac : pj_AF} {call : pj_F} (hc : pj_okA ac call) (hk : pj_kp ac) {M : pj_M} {tp : Nat} : ∀ (n : Nat) (G : pj_G) (pc : Nat) (A : pj_AL) (SA : List pj_AV) (mc ms : Nat) (L : pj_L) (S : List Value) (t' : pj_AT), pj_zto ac M tp n (G, pc, A, SA, mc, ms) = some t' → pj_gl A L → pj_gs SA S → ∃ L' S', pj_to call 0 pj_x0 M tp n (G, pc, L, S, mc, ms) = some (G, tp, L', S', mc, ms) ∧ pj_gs t'.2.2.2.1 S'
  | 0, G, pc, A, SA, mc, ms, L, S, t', h, _, _ => by cases (show (none : Option pj_AT) = some t' from h)
  | n + 1, G, pc, A, SA, mc, ms, L, S, t', h, hl, hs => by
    have h : pj_zoneT ac M tp (pj_zto ac M tp n) (G, pc, A, SA, mc, ms) = some t' := h
    unfold pj_zoneT at h
    show ∃ L' S', pj_oneT call 0 pj_x0 M tp (pj_to call 0 pj_x0 M tp n) (G, pc, L, S, mc, ms) = some (G, tp, L', S', mc, ms) ∧ _
    unfold pj_oneT
    split at h
    · rename_i e
      cases h
      have e : pc = tp := e
      subst e
      exact ⟨L, S, if_pos rfl, hs⟩
    · rename_i e
      have e : ¬ pc = tp := e
      split at h
      · cases h
      · rename_i q hq
        split at h
        · rename_i hro
          split at h
          · cases h
          · rename_i r hr
            obtain ⟨G2, pc2, A2, S2, dc, ds⟩ := r
            obtain ⟨k1, k2, k3⟩ := pj_ys_kp hk hro hr
            have k1 : G2 = G := k1
            have k2 : dc = 0 := k2
            have k3 : ds = 0 := k3
            subst k1 k2 k3
            obtain ⟨L2, S3, g1, g2, g3⟩ := pj_ys_s (xs := pj_x0) hc (fun j a h => by cases h) hr hl hs
            obtain ⟨L', S', h1, h2⟩ := pj_zto_s hc hk n _ _ _ _ _ _ _ _ t' h g2 g3
            refine ⟨L', S', ?_, h2⟩
            rw [if_neg e]
            show (match pj_find M.2.2.2.2.2 pc with
              | none => none
              | some q => (match pj_s call 0 pj_x0 M.2.2.1 q.2.2.1 q.2.2.2 q.1 pc G2 L S with
                | none => none
                | some r => pj_to call 0 pj_x0 M tp n (r.1, r.2.1, r.2.2.1, r.2.2.2.1, mc + r.2.2.2.2.1, ms + r.2.2.2.2.2))) = _
            have hq : pj_find M.2.2.2.2.2 pc = some q := hq
            rw [hq]
            show (match pj_s call 0 pj_x0 M.2.2.1 q.2.2.1 q.2.2.2 q.1 pc G2 L S with
                | none => none
                | some r => pj_to call 0 pj_x0 M tp n (r.1, r.2.1, r.2.2.1, r.2.2.2.1, mc + r.2.2.2.2.1, ms + r.2.2.2.2.2)) = _
            rw [g1]
            exact h1
        · cases h
