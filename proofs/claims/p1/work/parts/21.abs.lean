/-! ABSTRACT RUNS -/
def pj_ys (n0 : Nat) (sc : List pj_AV) (ac : pj_AF) (nL : Nat) (inf : List Nat) (z : Int) (i : Instr) (pc : Nat) (G : pj_G) (L : pj_AL) (S : List pj_AV) : Option pj_AT := match i with
  | .getfield _ => (match S with
    | (.ref a, none) :: r => (match pj_gf (inf.getD 0 0) (inf.getD 1 0) G [.ref a] with
      | some [v] => some (G, pc + 3, L, (v, none) :: r, 0, 0)
      | _ => none)
    | _ => none)
  | .putfield _ => (match S with
    | (v, none) :: (.ref a, none) :: r => (match pj_pf (inf.getD 0 0) (inf.getD 1 0) G [v, .ref a] with
      | some (G', []) => some (G', pc + 3, L, r, 0, 0)
      | _ => none)
    | _ => none)
  | .ldc _ => some (G, pc + 2, L, ((if inf.getD 0 0 = 0 then Value.int (Int32.ofInt z) else Value.retAddr (inf.getD 1 0)), none) :: S, 0, 0)
  | .ldc_w _ => some (G, pc + 3, L, ((if inf.getD 0 0 = 0 then Value.int (Int32.ofInt z) else Value.retAddr (inf.getD 1 0)), none) :: S, 0, 0)
  | .ldc2_w _ => some (G, pc + 3, L, (Value.long (Int64.ofInt z), none) :: S, 0, 0)
  | .invokevirtual _ => (pj_yinv ac inf G S).map (fun r => (r.1, pc + 3, L, r.2.1, r.2.2.1, r.2.2.2))
  | .invokespecial _ => if inf.getD 0 0 = 6 then none else (pj_yinv ac inf G S).map (fun r => (r.1, pc + 3, L, r.2.1, r.2.2.1, r.2.2.2))
  | .invokestatic _ => if inf.getD 0 0 = 7 then none else if 10 ≤ inf.getD 0 0 then none else (pj_yinv ac inf G S).map (fun r => (r.1, pc + 3, L, r.2.1, r.2.2.1, r.2.2.2))
  | .goto _ => some (G, inf.getD 0 0, L, S, 0, 0)
  | .ifCond c _ => (match S with
    | a :: r => (match pj_iv a with
      | some q => (match pj_cd c q (0, 0) with
        | some b => some (G, if b then inf.getD 0 0 else pc + 3, L, r, 0, 0)
        | none => none)
      | none => none)
    | [] => none)
  | .if_icmp c _ => (match S with
    | b :: a :: r => (match pj_iv a, pj_iv b with
      | some x, some y => (match pj_cd c x y with
        | some b => some (G, if b then inf.getD 0 0 else pc + 3, L, r, 0, 0)
        | none => none)
      | _, _ => none)
    | _ => none)
  | .tableswitch dflt lo hi offs => (match S with
    | (.int x, none) :: r => (match pj_kb (.tableswitch dflt lo hi offs) (inf.getD 0 0) pc [.int x] with
      | some (p2, []) => some (G, p2, L, r, 0, 0)
      | _ => none)
    | a :: r => (match pj_iv a with
      | some q => if (q.2 < lo ∨ hi < q.1) ∧ 0 ≤ (pc : Int) + dflt then some (G, ((pc : Int) + dflt).toNat, L, r, 0, 0) else none
      | none => none)
    | [] => none)
  | .iload_n k => (pj_ykl nL (.iload_n k) L S).map (fun r => (G, pc + pj_len (.iload_n k), r.1, r.2, 0, 0))
  | .iload k => (pj_ykl nL (.iload k) L S).map (fun r => (G, pc + pj_len (.iload k), r.1, r.2, 0, 0))
  | .lload_n k => (pj_ykl nL (.lload_n k) L S).map (fun r => (G, pc + pj_len (.lload_n k), r.1, r.2, 0, 0))
  | .lload k => (pj_ykl nL (.lload k) L S).map (fun r => (G, pc + pj_len (.lload k), r.1, r.2, 0, 0))
  | .aload_n k => (pj_ykl nL (.aload_n k) L S).map (fun r => (G, pc + pj_len (.aload_n k), r.1, r.2, 0, 0))
  | .aload k => (pj_ykl nL (.aload k) L S).map (fun r => (G, pc + pj_len (.aload k), r.1, r.2, 0, 0))
  | .istore_n k => (pj_ykl nL (.istore_n k) L S).map (fun r => (G, pc + pj_len (.istore_n k), r.1, r.2, 0, 0))
  | .istore k => (pj_ykl nL (.istore k) L S).map (fun r => (G, pc + pj_len (.istore k), r.1, r.2, 0, 0))
  | .lstore_n k => (pj_ykl nL (.lstore_n k) L S).map (fun r => (G, pc + pj_len (.lstore_n k), r.1, r.2, 0, 0))
  | .lstore k => (pj_ykl nL (.lstore k) L S).map (fun r => (G, pc + pj_len (.lstore k), r.1, r.2, 0, 0))
  | .astore_n k => (pj_ykl nL (.astore_n k) L S).map (fun r => (G, pc + pj_len (.astore_n k), r.1, r.2, 0, 0))
  | .astore k => (pj_ykl nL (.astore k) L S).map (fun r => (G, pc + pj_len (.astore k), r.1, r.2, 0, 0))
  | .iinc k n => (pj_ykl nL (.iinc k n) L S).map (fun r => (G, pc + 3, r.1, r.2, 0, 0))
  | .i2l => (match S with
    | (.int x, q) :: r => some (G, pc + pj_len .i2l, L, (.long x.toInt64, q) :: r, 0, 0)
    | _ => none)
  | .lcmp => (match S with
    | b :: a :: r => (match pj_lv a, pj_lv b with
      | some x, some y => some (G, pc + pj_len .lcmp, L, (.int 0, some (pj_lc3 x y)) :: r, 0, 0)
      | _, _ => none)
    | _ => none)
  | .iconst n => (pj_k (.iconst n) (pj_ypre S)).map (fun r => (G, pc + pj_len (.iconst n), L, r.map (fun v => (v, none)) ++ pj_ysuf S, 0, 0))
  | .bipush n => (pj_k (.bipush n) (pj_ypre S)).map (fun r => (G, pc + pj_len (.bipush n), L, r.map (fun v => (v, none)) ++ pj_ysuf S, 0, 0))
  | .sipush n => (pj_k (.sipush n) (pj_ypre S)).map (fun r => (G, pc + pj_len (.sipush n), L, r.map (fun v => (v, none)) ++ pj_ysuf S, 0, 0))
  | .lconst n => (pj_k (.lconst n) (pj_ypre S)).map (fun r => (G, pc + pj_len (.lconst n), L, r.map (fun v => (v, none)) ++ pj_ysuf S, 0, 0))
  | .iadd => (pj_k .iadd (pj_ypre S)).map (fun r => (G, pc + pj_len .iadd, L, r.map (fun v => (v, none)) ++ pj_ysuf S, 0, 0))
  | .isub => (pj_k .isub (pj_ypre S)).map (fun r => (G, pc + pj_len .isub, L, r.map (fun v => (v, none)) ++ pj_ysuf S, 0, 0))
  | .imul => (pj_k .imul (pj_ypre S)).map (fun r => (G, pc + pj_len .imul, L, r.map (fun v => (v, none)) ++ pj_ysuf S, 0, 0))
  | .ishl => (pj_k .ishl (pj_ypre S)).map (fun r => (G, pc + pj_len .ishl, L, r.map (fun v => (v, none)) ++ pj_ysuf S, 0, 0))
  | .ishr => (match S with
    | (.int y, none) :: (.int x, some q) :: r => some (G, pc + pj_len .ishr, L, (.int (x >>> (y &&& 31)), some (q.1 >>> ((y &&& 31).toBitVec.smod 32).toNat, q.2 >>> ((y &&& 31).toBitVec.smod 32).toNat)) :: r, 0, 0)
    | _ => (pj_k .ishr (pj_ypre S)).map (fun r => (G, pc + pj_len .ishr, L, r.map (fun v => (v, none)) ++ pj_ysuf S, 0, 0)))
  | .iaload => (match S with
    | (.int j, none) :: (.ref a, none) :: r => if a = 0 then (if ¬ (j < 0 ∨ n0 ≤ j.toNatClampNeg + 1) then (match sc[j.toNatClampNeg]? with
        | some v => some (G, pc + 1, L, v :: r, 0, 0)
        | none => none) else none)
      else (match pj_rdi G [.int j, .ref a] with
        | some [v] => some (G, pc + 1, L, (v, none) :: r, 0, 0)
        | _ => none)
    | _ => none)
  | .laload => (match S with
    | (.int j, none) :: (.ref a, none) :: r => (match pj_rdl G [.int j, .ref a] with
        | some [v] => some (G, pc + 1, L, (v, none) :: r, 0, 0)
        | _ => none)
    | _ => none)
  | .arraylength => (match S with
    | (.ref a, none) :: r => (match pj_aln n0 G [.ref a] with
        | some [v] => some (G, pc + 1, L, (v, none) :: r, 0, 0)
        | _ => none)
    | _ => none)
  | .iand => (pj_k .iand (pj_ypre S)).map (fun r => (G, pc + pj_len .iand, L, r.map (fun v => (v, none)) ++ pj_ysuf S, 0, 0))
  | .dup => (pj_k .dup (pj_ypre S)).map (fun r => (G, pc + pj_len .dup, L, r.map (fun v => (v, none)) ++ pj_ysuf S, 0, 0))
  | .pop => (pj_k .pop (pj_ypre S)).map (fun r => (G, pc + pj_len .pop, L, r.map (fun v => (v, none)) ++ pj_ysuf S, 0, 0))
  | _ => none
theorem pj_kb_ts {dflt lo hi : Int} {offs : Array Int} {tgt pc p2 : Nat} {x : Int32} (t : List Value) (h : pj_kb (.tableswitch dflt lo hi offs) tgt pc [.int x] = some (p2, [])) : pj_kb (.tableswitch dflt lo hi offs) tgt pc (.int x :: t) = some (p2, t) := by
  simp only [pj_kb] at h ⊢
  split at h
  · rename_i h1
    rw [if_pos h1]
    split at h
    · rename_i h2
      cases h
      exact if_pos h2
    · cases h
  · rename_i h1
    rw [if_neg h1]
    cases ho : offs[(x.toInt - lo).toNat]? with
    | none =>
      simp only [ho] at h
      cases h
    | some off =>
      simp only [ho] at h ⊢
      split at h
      · rename_i h2
        cases h
        exact if_pos h2
      · cases h
theorem pj_shr (u s : Int32) : (u >>> s).toInt = u.toInt >>> (s.toBitVec.smod 32).toNat := by
  rw [← Int32.toInt_toBitVec, Int32.toBitVec_shiftRight, BitVec.sshiftRight_eq', BitVec.toInt_sshiftRight, Int32.toInt_toBitVec]
theorem pj_shr_m {a b : Int} (h : a ≤ b) (n : Nat) : a >>> n ≤ b >>> n := by
  rw [Int.shiftRight_eq_div_pow, Int.shiftRight_eq_div_pow]
  exact Int.ediv_le_ediv (by have := Nat.two_pow_pos n; omega) h
theorem pj_rdi_app {G : pj_G} {j : Int32} {a : Nat} {v : Value} (t : List Value) (h : pj_rdi G [.int j, .ref a] = some [v]) : pj_rdi G (.int j :: .ref a :: t) = some (v :: t) := by
  obtain ⟨j2, a2, r2, n2, f2, e1, hg, hin, e2⟩ := pj_rdi_s h
  cases e1
  cases e2
  unfold pj_rdi
  simp only [hg]
  exact if_pos ⟨trivial, hin⟩
theorem pj_rdl_app {G : pj_G} {j : Int32} {a : Nat} {v : Value} (t : List Value) (h : pj_rdl G [.int j, .ref a] = some [v]) : pj_rdl G (.int j :: .ref a :: t) = some (v :: t) := by
  obtain ⟨j2, a2, r2, n2, f2, e1, hg, hin, e2⟩ := pj_rdl_s h
  cases e1
  cases e2
  unfold pj_rdl
  simp only [hg]
  exact if_pos ⟨trivial, hin⟩
theorem pj_aln_app {n0 : Nat} {G : pj_G} {a : Nat} {v : Value} (t : List Value) (h : pj_aln n0 G [.ref a] = some [v]) : pj_aln n0 G (.ref a :: t) = some (v :: t) := by
  cases a with
  | zero =>
    cases n0 with
    | zero => cases (show (none : Option (List Value)) = some [v] from h)
    | succ n => cases h; rfl
  | succ a =>
    have h : (match pj_get G (a + 1) with
      | some (.inl (k, x)) => if k < 4 then some [Value.int (Int32.ofNat x.1)] else none
      | _ => none) = some [v] := h
    show (match pj_get G (a + 1) with
      | some (.inl (k, x)) => if k < 4 then some (Value.int (Int32.ofNat x.1) :: t) else none
      | _ => none) = some (v :: t)
    split at h
    · split at h
      · rename_i hc
        cases h
        exact if_pos hc
      · cases h
    · cases h
set_option maxHeartbeats 4000000 in
theorem pj_ys_s {ac : pj_AF} {call : pj_F} (hc : pj_okA ac call) {n0 : Nat} {sc : List pj_AV} {xs : Nat → Int32} (hsc : ∀ (j : Nat) (a : pj_AV), sc[j]? = some a → pj_ga a (.int (xs j))) {nL : Nat} {inf : List Nat} {z : Int} {i : Instr} {pc pc' : Nat} {G G' : pj_G} {A A' : pj_AL} {SA SA' : List pj_AV} {L : pj_L} {S : List Value} {dc ds : Nat} (h : pj_ys n0 sc ac nL inf z i pc G A SA = some (G', pc', A', SA', dc, ds)) (hl : pj_gl A L) (hs : pj_gs SA S) :
    ∃ L' S', pj_s call n0 xs nL inf z i pc G L S = some (G', pc', L', S', dc, ds) ∧ pj_gl A' L' ∧ pj_gs SA' S' := by
  have gk : ∀ (j : Instr) (n : Nat), (pj_k j (pj_ypre SA)).map (fun r => ((G, n, A, r.map (fun v => (v, none)) ++ pj_ysuf SA, 0, 0) : pj_AT)) = some (G', pc', A', SA', dc, ds) → ∃ L' S', (pj_k j S).map (fun r => ((G, n, L, r, 0, 0) : pj_T)) = some (G', pc', L', S', dc, ds) ∧ pj_gl A' L' ∧ pj_gs SA' S' := fun j n h => by
    obtain ⟨r, h1, h2⟩ := pj_map h
    cases h2
    obtain ⟨R, e, hR⟩ := pj_ypre_s hs
    refine ⟨L, r ++ R, ?_, hl, pj_gs_app (pj_gs_ex r) hR⟩
    rw [e, pj_k_app R h1]
    rfl
  have gl : ∀ (j : Instr) (n : Nat), (pj_ykl nL j A SA).map (fun r => ((G, n, r.1, r.2, 0, 0) : pj_AT)) = some (G', pc', A', SA', dc, ds) → ∃ L' S', (pj_kl nL j L S).map (fun r => ((G, n, r.1, r.2, 0, 0) : pj_T)) = some (G', pc', L', S', dc, ds) ∧ pj_gl A' L' ∧ pj_gs SA' S' := fun j n h => by
    obtain ⟨r, h1, h2⟩ := pj_map h
    cases h2
    obtain ⟨L', S', h3, h4, h5⟩ := pj_ykl_s (A' := r.1) (SA' := r.2) h1 hl hs
    refine ⟨L', S', ?_, h4, h5⟩
    rw [h3]
    rfl
  have gi : (pj_yinv ac inf G SA).map (fun r => ((r.1, pc + 3, A, r.2.1, r.2.2.1, r.2.2.2) : pj_AT)) = some (G', pc', A', SA', dc, ds) → ∃ L' S', (pj_inv call inf G S).map (fun r => ((r.1, pc + 3, L, r.2.1, r.2.2.1, r.2.2.2) : pj_T)) = some (G', pc', L', S', dc, ds) ∧ pj_gl A' L' ∧ pj_gs SA' S' := fun h => by
    obtain ⟨r, h1, h2⟩ := pj_map h
    cases h2
    obtain ⟨S', h3, h4⟩ := pj_yinv_s (G' := r.1) (SA' := r.2.1) (dc := r.2.2.1) (ds := r.2.2.2) hc h1 hs
    refine ⟨L, S', ?_, hl, h4⟩
    rw [h3]
    rfl
  cases i
  case getfield q =>
    replace h : (match SA with
      | (.ref a, none) :: r => (match pj_gf (inf.getD 0 0) (inf.getD 1 0) G [.ref a] with
        | some [v] => some (G, pc + 3, A, (v, none) :: r, 0, 0)
        | _ => none)
      | _ => none) = some (G', pc', A', SA', dc, ds) := h
    split at h
    · rename_i a r
      split at h
      · rename_i v hv
        cases h
        obtain ⟨w, t, rfl, h1, h2⟩ := pj_gs_cons hs
        have h1 : w = .ref a := h1
        subst h1
        obtain ⟨a2, r2, fs, v2, e1, e2, e3, e4⟩ := pj_gf_s hv
        cases e1
        cases e4
        refine ⟨L, v :: t, ?_, hl, rfl, h2⟩
        show (pj_gf (inf.getD 0 0) (inf.getD 1 0) G (.ref a :: t)).map (fun r => ((G, pc + 3, L, r, 0, 0) : pj_T)) = _
        have e5 : pj_gf (inf.getD 0 0) (inf.getD 1 0) G (.ref a :: t) = some (v :: t) := by
          unfold pj_gf
          simp only [e2, e3, if_true]
        rw [e5]
        rfl
      · cases h
    · cases h
  case putfield q =>
    replace h : (match SA with
      | (v, none) :: (.ref a, none) :: r => (match pj_pf (inf.getD 0 0) (inf.getD 1 0) G [v, .ref a] with
        | some (G', []) => some (G', pc + 3, A, r, 0, 0)
        | _ => none)
      | _ => none) = some (G', pc', A', SA', dc, ds) := h
    split at h
    · rename_i v a r
      split at h
      · rename_i G2 hv
        cases h
        obtain ⟨w, t, rfl, h1, h2⟩ := pj_gs_cons hs
        have h1 : w = v := h1
        subst h1
        obtain ⟨w2, t2, rfl, h3, h4⟩ := pj_gs_cons h2
        have h3 : w2 = .ref a := h3
        subst h3
        obtain ⟨v3, a3, fs, e1, e2, e3, e4, e5⟩ := pj_pf_s hv
        cases e1
        refine ⟨L, t2, ?_, hl, h4⟩
        show (pj_pf (inf.getD 0 0) (inf.getD 1 0) G (w :: .ref a :: t2)).map (fun r => ((r.1, pc + 3, L, r.2, 0, 0) : pj_T)) = _
        have e6 : pj_pf (inf.getD 0 0) (inf.getD 1 0) G (w :: .ref a :: t2) = some (G', t2) := by
          unfold pj_pf
          simp only [e2]
          rw [if_pos ⟨trivial, e3, e4⟩, e5]
        rw [e6]
        rfl
      · cases h
    · cases h
  case ldc q => cases h; exact ⟨L, _ :: S, rfl, hl, rfl, hs⟩
  case ldc_w q => cases h; exact ⟨L, _ :: S, rfl, hl, rfl, hs⟩
  case ldc2_w q => cases h; exact ⟨L, _ :: S, rfl, hl, rfl, hs⟩
  case invokevirtual q => exact gi h
  case invokespecial q =>
    replace h : (if inf.getD 0 0 = 6 then none else (pj_yinv ac inf G SA).map (fun r => ((r.1, pc + 3, A, r.2.1, r.2.2.1, r.2.2.2) : pj_AT))) = some (G', pc', A', SA', dc, ds) := h
    split at h
    · cases h
    · rename_i hk
      obtain ⟨L', S', h1, h2⟩ := gi h
      refine ⟨L', S', ?_, h2⟩
      show (if inf.getD 0 0 = 6 then (pj_oi S).map (fun r => ((G, pc + 3, L, r, 0, 0) : pj_T)) else (pj_inv call inf G S).map (fun r => (r.1, pc + 3, L, r.2.1, r.2.2.1, r.2.2.2))) = _
      rw [if_neg hk, h1]
  case invokestatic q =>
    replace h : (if inf.getD 0 0 = 7 then none else if 10 ≤ inf.getD 0 0 then none else (pj_yinv ac inf G SA).map (fun r => ((r.1, pc + 3, A, r.2.1, r.2.2.1, r.2.2.2) : pj_AT))) = some (G', pc', A', SA', dc, ds) := h
    split at h
    · cases h
    · rename_i hk
      split at h
      · cases h
      · rename_i hk2
        obtain ⟨L', S', h1, h2⟩ := gi h
        refine ⟨L', S', ?_, h2⟩
        show (if inf.getD 0 0 = 7 then (pj_cp G S).map (fun r => ((r.1, pc + 3, L, r.2, 0, 0) : pj_T)) else if 10 ≤ inf.getD 0 0 then (pj_mth (inf.getD 0 0) S).map (fun r => (G, pc + 3, L, r, 0, 0)) else (pj_inv call inf G S).map (fun r => (r.1, pc + 3, L, r.2.1, r.2.2.1, r.2.2.2))) = _
        rw [if_neg hk, if_neg hk2, h1]
  case goto q => cases h; exact ⟨L, S, rfl, hl, hs⟩
  case ifCond c q =>
    replace h : (match SA with
      | a :: r => (match pj_iv a with
        | some q => (match pj_cd c q (0, 0) with
          | some b => some (G, if b then inf.getD 0 0 else pc + 3, A, r, 0, 0)
          | none => none)
        | none => none)
      | [] => none) = some (G', pc', A', SA', dc, ds) := h
    split at h
    · split at h
      · rename_i q2 hq
        split at h
        · rename_i b hb
          cases h
          obtain ⟨w, t, rfl, h1, h2⟩ := pj_gs_cons hs
          obtain ⟨x, rfl, g1, g2⟩ := pj_iv_s h1 hq
          have e := pj_cd_s (v := 0) hb ⟨g1, g2⟩ ⟨by decide, by decide⟩
          refine ⟨L, t, ?_, hl, h2⟩
          show some ((G, (if pj_c1 c x 0 then inf.getD 0 0 else pc + 3), L, t, 0, 0) : pj_T) = _
          rw [e]
        · cases h
      · cases h
    · cases h
  case if_icmp c q =>
    replace h : (match SA with
      | b :: a :: r => (match pj_iv a, pj_iv b with
        | some x, some y => (match pj_cd c x y with
          | some b => some (G, if b then inf.getD 0 0 else pc + 3, A, r, 0, 0)
          | none => none)
        | _, _ => none)
      | _ => none) = some (G', pc', A', SA', dc, ds) := h
    split at h
    · split at h
      · rename_i x y hx hy
        split at h
        · rename_i b hb
          cases h
          obtain ⟨w, t, rfl, h1, h2⟩ := pj_gs_cons hs
          obtain ⟨w2, t2, rfl, h3, h4⟩ := pj_gs_cons h2
          obtain ⟨v, rfl, g1, g2⟩ := pj_iv_s h1 hy
          obtain ⟨u, rfl, g3, g4⟩ := pj_iv_s h3 hx
          have e := pj_cd_s hb ⟨g3, g4⟩ ⟨g1, g2⟩
          refine ⟨L, t2, ?_, hl, h4⟩
          show some ((G, (if pj_c1 c u v then inf.getD 0 0 else pc + 3), L, t2, 0, 0) : pj_T) = _
          rw [e]
        · cases h
      · cases h
    · cases h
  case tableswitch dflt lo hi offs =>
    simp only [pj_ys] at h
    split at h
    · rename_i x r
      obtain ⟨w, t, rfl, h1, h2⟩ := pj_gs_cons hs
      have h1 : w = .int x := h1
      subst h1
      split at h
      · rename_i p2 hv
        cases h
        refine ⟨L, t, ?_, hl, h2⟩
        show (pj_kb (.tableswitch dflt lo hi offs) (inf.getD 0 0) pc (.int x :: t)).map (fun r => ((G, r.1, L, r.2, 0, 0) : pj_T)) = _
        rw [pj_kb_ts t hv]
        rfl
      · cases h
    · split at h
      · rename_i q2 hq
        split at h
        · rename_i hb
          cases h
          obtain ⟨w, t, rfl, h1, h2⟩ := pj_gs_cons hs
          obtain ⟨x, rfl, g1, g2⟩ := pj_iv_s h1 hq
          refine ⟨L, t, ?_, hl, h2⟩
          show (if x.toInt < lo ∨ hi < x.toInt then (if 0 ≤ (pc : Int) + dflt then some (((pc : Int) + dflt).toNat, t) else none)
            else (match offs[(x.toInt - lo).toNat]? with
              | some off => if 0 ≤ (pc : Int) + off then some (((pc : Int) + off).toNat, t) else none
              | none => none)).map (fun r => ((G, r.1, L, r.2, 0, 0) : pj_T)) = _
          rw [if_pos (by omega), if_pos hb.2]
          rfl
        · cases h
      · cases h
    · cases h
  case iload_n k => exact gl _ _ h
  case iload k => exact gl _ _ h
  case lload_n k => exact gl _ _ h
  case lload k => exact gl _ _ h
  case aload_n k => exact gl _ _ h
  case aload k => exact gl _ _ h
  case istore_n k => exact gl _ _ h
  case istore k => exact gl _ _ h
  case lstore_n k => exact gl _ _ h
  case lstore k => exact gl _ _ h
  case astore_n k => exact gl _ _ h
  case astore k => exact gl _ _ h
  case iinc k n => exact gl _ _ h
  case i2l =>
    replace h : (match SA with
      | (.int x, q) :: r => some (G, pc + pj_len .i2l, A, (Value.long x.toInt64, q) :: r, 0, 0)
      | _ => none) = some (G', pc', A', SA', dc, ds) := h
    split at h
    · rename_i x q r
      cases h
      obtain ⟨w, t, rfl, h1, h2⟩ := pj_gs_cons hs
      cases q with
      | none =>
        have h1 : w = .int x := h1
        subst h1
        exact ⟨L, .long x.toInt64 :: t, rfl, hl, rfl, h2⟩
      | some q =>
        obtain ⟨y, rfl, g1, g2⟩ := h1
        exact ⟨L, .long y.toInt64 :: t, rfl, hl, ⟨y.toInt64, rfl, by rw [Int32.toInt_toInt64]; exact g1, by rw [Int32.toInt_toInt64]; exact g2⟩, h2⟩
    · cases h
  case lcmp =>
    simp only [pj_ys] at h
    split at h
    · split at h
      · rename_i x y hx hy
        cases h
        obtain ⟨w, t, rfl, h1, h2⟩ := pj_gs_cons hs
        obtain ⟨w2, t2, rfl, h3, h4⟩ := pj_gs_cons h2
        obtain ⟨v, rfl, g1, g2⟩ := pj_lv_s h1 hy
        obtain ⟨u, rfl, g3, g4⟩ := pj_lv_s h3 hx
        obtain ⟨e, e'⟩ := pj_lc3_s ⟨g3, g4⟩ ⟨g1, g2⟩
        exact ⟨L, .int (lg_cmp u v) :: t2, rfl, hl, ⟨_, rfl, e, e'⟩, h4⟩
      · cases h
    · cases h
  case iconst n => exact gk (.iconst n) (pc + pj_len (.iconst n)) h
  case bipush n => exact gk (.bipush n) (pc + pj_len (.bipush n)) h
  case sipush n => exact gk (.sipush n) (pc + pj_len (.sipush n)) h
  case lconst n => exact gk (.lconst n) (pc + pj_len (.lconst n)) h
  case iadd => exact gk _ _ h
  case isub => exact gk _ _ h
  case imul => exact gk _ _ h
  case ishl => exact gk _ _ h
  case ishr =>
    simp only [pj_ys] at h
    split at h
    · cases h
      obtain ⟨w, t, rfl, h1, h2⟩ := pj_gs_cons hs
      obtain ⟨w2, t2, rfl, h3, h4⟩ := pj_gs_cons h2
      have h1 : w = _ := h1
      subst h1
      obtain ⟨u, rfl, g1, g2⟩ := h3
      exact ⟨L, _ :: t2, rfl, hl, ⟨_, rfl, by rw [pj_shr]; exact pj_shr_m g1 _, by rw [pj_shr]; exact pj_shr_m g2 _⟩, h4⟩
    · exact gk .ishr (pc + pj_len .ishr) h
  case iaload =>
    simp only [pj_ys] at h
    split at h
    · rename_i j a r
      obtain ⟨w, t, rfl, h1, h2⟩ := pj_gs_cons hs
      obtain ⟨w2, t2, rfl, h3, h4⟩ := pj_gs_cons h2
      have h1 : w = .int j := h1
      subst h1
      have h3 : w2 = .ref a := h3
      subst h3
      split at h
      · rename_i ha
        subst ha
        split at h
        · rename_i hj
          split at h
          · rename_i v hv
            cases h
            refine ⟨L, .int (xs j.toNatClampNeg) :: t2, ?_, hl, hsc _ _ hv, h4⟩
            have e : pj_sc n0 xs (.int j :: .ref 0 :: t2) = some (.int (xs j.toNatClampNeg) :: t2) := if_pos hj
            show (match pj_sc n0 xs (.int j :: .ref 0 :: t2) with
              | some r => some ((G, pc + 1, L, r, 0, 0) : pj_T)
              | none => (pj_rdi G (.int j :: .ref 0 :: t2)).map (fun r => (G, pc + 1, L, r, 0, 0))) = _
            rw [e]
          · cases h
        · cases h
      · split at h
        · rename_i v hv
          cases h
          have e := pj_rdi_app t2 hv
          refine ⟨L, v :: t2, ?_, hl, rfl, h4⟩
          show (match pj_sc n0 xs (.int j :: .ref a :: t2) with
            | some r => some ((G, pc + 1, L, r, 0, 0) : pj_T)
            | none => (pj_rdi G (.int j :: .ref a :: t2)).map (fun r => (G, pc + 1, L, r, 0, 0))) = _
          rw [pj_sc_up e, e]
          rfl
        · cases h
    · cases h
  case laload =>
    simp only [pj_ys] at h
    split at h
    · rename_i j a r
      obtain ⟨w, t, rfl, h1, h2⟩ := pj_gs_cons hs
      obtain ⟨w2, t2, rfl, h3, h4⟩ := pj_gs_cons h2
      have h1 : w = .int j := h1
      subst h1
      have h3 : w2 = .ref a := h3
      subst h3
      split at h
      · rename_i v hv
        cases h
        have e := pj_rdl_app t2 hv
        refine ⟨L, v :: t2, ?_, hl, rfl, h4⟩
        show (pj_rdl G (.int j :: .ref a :: t2)).map (fun r => ((G, pc + 1, L, r, 0, 0) : pj_T)) = _
        rw [e]
        rfl
      · cases h
    · cases h
  case arraylength =>
    simp only [pj_ys] at h
    split at h
    · rename_i a r
      obtain ⟨w, t, rfl, h1, h2⟩ := pj_gs_cons hs
      have h1 : w = .ref a := h1
      subst h1
      split at h
      · rename_i v hv
        cases h
        have e := pj_aln_app t hv
        refine ⟨L, v :: t, ?_, hl, rfl, h2⟩
        show (pj_aln n0 G (.ref a :: t)).map (fun r => ((G, pc + 1, L, r, 0, 0) : pj_T)) = _
        rw [e]
        rfl
      · cases h
    · cases h
  case iand => exact gk _ _ h
  case dup => exact gk _ _ h
  case pop => exact gk _ _ h
  all_goals cases (show (none : Option pj_AT) = some (G', pc', A', SA', dc, ds) from h)
