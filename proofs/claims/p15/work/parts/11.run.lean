/-! RUNS -/
def pj_rt (ret : Option FieldType) (i : Instr) (S : List Value) : Option (Option Value) := match i with
  | .ireturn => (match S with
    | [.int v] => (match ret with
      | some .int => some (some (.int v))
      | some ty => if narrow ty (.int v) = .int v then some (some (.int v)) else none
      | none => none)
    | _ => none)
  | .lreturn => (match S, ret with
    | [.long v], some .long => some (some (.long v))
    | _, _ => none)
  | .areturn => (match S, ret with
    | [.ref a], some (.object _) => some (some (.ref a))
    | [.retAddr a], some (.object _) => some (some (.retAddr a))
    | _, _ => none)
  | .return_ => (match S, ret with
    | [], none => some none
    | _, _ => none)
  | _ => none
def pj_find (code : List pj_I) (pc : Nat) : Option (Instr × Nat × List Nat × Int) := (code.find? (fun q => Nat.beq q.1 pc)).map (fun q => q.2)
theorem pj_find_s {code : List pj_I} {pc : Nat} {q : Instr × Nat × List Nat × Int} (h : pj_find code pc = some q) : (pc, q) ∈ code := by
  obtain ⟨a, h1, h2⟩ := pj_map h
  have h3 := List.mem_of_find?_eq_some h1
  have h4 := List.find?_some h1
  have h5 : a.1 = pc := Nat.eq_of_beq_eq_true h4
  subst h2
  rw [← h5]
  exact h3
abbrev pj_V : Type := Option (Option Value × pj_G × Nat × Nat)
def pj_one (call : pj_F) (n0 : Nat) (xs : Nat → Int32) (M : pj_M) (ih : pj_T → pj_V) (t : pj_T) : pj_V := match pj_find M.2.2.2.2.2 t.2.1 with
  | none => none
  | some q => (match pj_rt M.2.2.2.1 q.1 t.2.2.2.1 with
    | some v => some (v, t.1, t.2.2.2.2.1, t.2.2.2.2.2)
    | none => (match pj_s call n0 xs M.2.2.1 q.2.2.1 q.2.2.2 q.1 t.2.1 t.1 t.2.2.1 t.2.2.2.1 with
      | none => none
      | some r => ih (r.1, r.2.1, r.2.2.1, r.2.2.2.1, t.2.2.2.2.1 + r.2.2.2.2.1, t.2.2.2.2.2 + r.2.2.2.2.2)))
noncomputable def pj_run (call : pj_F) (n0 : Nat) (xs : Nat → Int32) (M : pj_M) (n : Nat) : pj_T → pj_V := Nat.rec (motive := fun _ => pj_T → pj_V) (fun _ => none) (fun _ ih t => pj_one call n0 xs M ih t) n
theorem pj_run_0 (call : pj_F) (n0 : Nat) (xs : Nat → Int32) (M : pj_M) (t : pj_T) : pj_run call n0 xs M 0 t = none := rfl
theorem pj_run_s (call : pj_F) (n0 : Nat) (xs : Nat → Int32) (M : pj_M) (n : Nat) (t : pj_T) : pj_run call n0 xs M (n + 1) t = pj_one call n0 xs M (pj_run call n0 xs M n) t := rfl
/-- a step of a run, told apart -/
theorem pj_one_s {call : pj_F} {n0 : Nat} {xs : Nat → Int32} {M : pj_M} {ih : pj_T → pj_V} {t : pj_T} {v : Option Value} {G' : pj_G} {mc ms : Nat} (h : pj_one call n0 xs M ih t = some (v, G', mc, ms)) :
    ∃ q, (t.2.1, q) ∈ M.2.2.2.2.2 ∧ ((pj_rt M.2.2.2.1 q.1 t.2.2.2.1 = some v ∧ G' = t.1 ∧ mc = t.2.2.2.2.1 ∧ ms = t.2.2.2.2.2) ∨
      ∃ (G2 : pj_G) (pc2 : Nat) (L2 : pj_L) (S2 : List Value) (dc ds : Nat), pj_s call n0 xs M.2.2.1 q.2.2.1 q.2.2.2 q.1 t.2.1 t.1 t.2.2.1 t.2.2.2.1 = some (G2, pc2, L2, S2, dc, ds) ∧ ih (G2, pc2, L2, S2, t.2.2.2.2.1 + dc, t.2.2.2.2.2 + ds) = some (v, G', mc, ms)) := by
  unfold pj_one at h
  split at h
  · cases h
  · rename_i q hq
    refine ⟨q, pj_find_s hq, ?_⟩
    split at h
    · rename_i v2 hv
      cases h
      exact Or.inl ⟨hv, rfl, rfl, rfl⟩
    · split at h
      · cases h
      · rename_i r hr
        exact Or.inr ⟨_, _, _, _, _, _, hr, h⟩
theorem pj_run_mono {call : pj_F} {n0 : Nat} {xs : Nat → Int32} {M : pj_M} : ∀ (n : Nat) (t : pj_T) {v : Option Value} {G' : pj_G} {mc ms : Nat}, pj_run call n0 xs M n t = some (v, G', mc, ms) → t.2.2.2.2.1 ≤ mc ∧ t.2.2.2.2.2 ≤ ms
  | 0, t, v, G', mc, ms, h => by cases (show (none : pj_V) = some (v, G', mc, ms) from h)
  | n + 1, t, v, G', mc, ms, h => by
    rw [pj_run_s] at h
    obtain ⟨q, -, h1 | ⟨G2, pc2, L2, S2, dc, ds, h1, h2⟩⟩ := pj_one_s h
    · obtain ⟨-, -, e1, e2⟩ := h1
      omega
    · have h3 := pj_run_mono n _ h2
      dsimp only at h3
      omega
/-- exactness is kept -/
def pj_gd (G G' : pj_G) (dc : Nat) : Prop := G'.2 = true → G.2 = true ∧ G'.1.length = G.1.length + dc
theorem pj_gd_0 (G : pj_G) : pj_gd G G 0 := fun h => ⟨h, rfl⟩
theorem pj_gd_p (G : pj_G) (a : Nat) (x : pj_C) : pj_gd G (pj_put G a x) 0 := fun h => ⟨h, by show (G.1.set (a - 1) x).length = _; rw [List.length_set]; rfl⟩
theorem pj_gd_a (G : pj_G) (x : pj_C) (h : G.2 = true) : pj_gd G (G.1 ++ [x], true) 1 := fun _ => ⟨h, by show (G.1 ++ [x]).length = _; rw [List.length_append]; rfl⟩
set_option maxHeartbeats 4000000 in
theorem pj_s_gd {call : pj_F} {n0 : Nat} {xs : Nat → Int32} {nL : Nat} {inf : List Nat} {z : Int} {i : Instr} {pc pc' : Nat} {G G' : pj_G} {L L' : pj_L} {S S' : List Value} {dc ds : Nat} (hcall : ∀ (mi : Nat) (vs : List Value) (G : pj_G) (v : Option Value) (G' : pj_G) (dc ds : Nat), call mi vs G = some (v, G', dc, ds) → pj_gd G G' dc)
    (h : pj_s call n0 xs nL inf z i pc G L S = some (G', pc', L', S', dc, ds)) : pj_gd G G' dc := by
  have hinv : ∀ {G' : pj_G} {S' : List Value} {dc ds : Nat}, pj_inv call inf G S = some (G', S', dc, ds) → pj_gd G G' dc := by
    intro G' S' dc ds h1
    obtain ⟨vs, rest, v, -, -, -, -, hcl, -⟩ := pj_inv_s h1
    exact hcall _ _ _ _ _ _ _ hcl
  cases i
  case putfield idx =>
    obtain ⟨⟨r1, r2⟩, h1, h2⟩ := pj_map h
    cases h2
    obtain ⟨v, a, fs, -, -, -, -, rfl⟩ := pj_pf_s h1
    exact pj_gd_p _ _ _
  case iaload =>
    simp only [pj_s] at h
    split at h
    · cases h
      exact pj_gd_0 _
    · obtain ⟨r, h1, h2⟩ := pj_map h
      cases h2
      exact pj_gd_0 _
  case iastore =>
    obtain ⟨⟨r1, r2⟩, h1, h2⟩ := pj_map h
    cases h2
    obtain ⟨x, j, a, n, f, -, -, -, rfl⟩ := pj_asi_s h1
    exact pj_gd_p _ _ _
  case bastore =>
    obtain ⟨⟨r1, r2⟩, h1, h2⟩ := pj_map h
    cases h2
    obtain ⟨x, j, a, n, f, -, -, -, rfl⟩ := pj_asz_s h1
    exact pj_gd_p _ _ _
  case lastore =>
    obtain ⟨⟨r1, r2⟩, h1, h2⟩ := pj_map h
    cases h2
    obtain ⟨x, j, a, n, f, -, -, -, rfl⟩ := pj_asl_s h1
    exact pj_gd_p _ _ _
  case aastore =>
    obtain ⟨⟨r1, r2⟩, h1, h2⟩ := pj_map h
    cases h2
    obtain ⟨v, j, a, n, f, fs, -, -, -, -, rfl⟩ := pj_asq_s h1
    exact pj_gd_p _ _ _
  case new idx =>
    obtain ⟨⟨r1, r2, r3⟩, h1, h2⟩ := pj_map h
    cases h2
    unfold pj_nw at h1
    split at h1
    · split at h1
      · cases h1
        exact pj_gd_a _ _ (by assumption)
      · cases h1
    · cases h1
  case newarray a =>
    obtain ⟨⟨r1, r2, r3⟩, h1, h2⟩ := pj_map h
    cases h2
    unfold pj_na at h1
    split at h1
    · split at h1
      · rename_i hg
        split at h1
        · cases h1
          exact pj_gd_a _ _ hg.1
        · cases h1
      · cases h1
    · cases h1
  case anewarray idx =>
    obtain ⟨⟨r1, r2, r3⟩, h1, h2⟩ := pj_map h
    cases h2
    unfold pj_nq at h1
    split at h1
    · split at h1
      · rename_i hg
        cases h1
        exact pj_gd_a _ _ hg.1
      · cases h1
    · cases h1
  case ldc idx =>
    cases h
    exact pj_gd_0 _
  case ldc_w idx =>
    cases h
    exact pj_gd_0 _
  case ldc2_w idx =>
    cases h
    exact pj_gd_0 _
  case invokevirtual idx =>
    obtain ⟨⟨r1, r2, r3, r4⟩, h1, h2⟩ := pj_map h
    cases h2
    exact hinv h1
  case invokespecial idx =>
    simp only [pj_s] at h
    split at h
    · obtain ⟨r, h1, h2⟩ := pj_map h
      cases h2
      exact pj_gd_0 _
    · obtain ⟨⟨r1, r2, r3, r4⟩, h1, h2⟩ := pj_map h
      cases h2
      exact hinv h1
  case invokestatic idx =>
    simp only [pj_s] at h
    split at h
    · obtain ⟨⟨r1, r2⟩, h1, h2⟩ := pj_map h
      cases h2
      unfold pj_cp at h1
      split at h1
      · split at h1
        · split at h1
          · cases h1
            exact pj_gd_p _ _ _
          · cases h1
        · cases h1
      · cases h1
    · split at h
      · obtain ⟨r, h1, h2⟩ := pj_map h
        cases h2
        exact pj_gd_0 _
      · obtain ⟨⟨r1, r2, r3, r4⟩, h1, h2⟩ := pj_map h
        cases h2
        exact hinv h1
  all_goals first
    | (cases (show (none : Option pj_T) = some (G', pc', L', S', dc, ds) from h))
    | (cases h
       exact pj_gd_0 _)
    | (obtain ⟨r, h1, h2⟩ := pj_map h
       cases h2
       exact pj_gd_0 _)
theorem pj_gd_t {A B C : pj_G} {x y : Nat} (h1 : pj_gd A B x) (h2 : pj_gd B C y) : pj_gd A C (x + y) := fun h => by
  obtain ⟨a1, a2⟩ := h2 h
  obtain ⟨b1, b2⟩ := h1 a1
  exact ⟨b1, by omega⟩
theorem pj_run_gd {call : pj_F} {n0 : Nat} {xs : Nat → Int32} {M : pj_M} (hcall : ∀ (mi : Nat) (vs : List Value) (G : pj_G) (v : Option Value) (G' : pj_G) (dc ds : Nat), call mi vs G = some (v, G', dc, ds) → pj_gd G G' dc) : ∀ (n : Nat) (t : pj_T) {v : Option Value} {G' : pj_G} {mc ms : Nat}, pj_run call n0 xs M n t = some (v, G', mc, ms) → pj_gd t.1 G' (mc - t.2.2.2.2.1)
  | 0, t, v, G', mc, ms, h => by cases (show (none : pj_V) = some (v, G', mc, ms) from h)
  | n + 1, t, v, G', mc, ms, h => by
    rw [pj_run_s] at h
    obtain ⟨q, -, h1 | ⟨G2, pc2, L2, S2, dc, ds, h1, h2⟩⟩ := pj_one_s h
    · obtain ⟨-, rfl, rfl, -⟩ := h1
      rw [Nat.sub_self]
      exact pj_gd_0 _
    · have h3 := pj_run_gd hcall n _ h2
      have h4 := pj_s_gd hcall h1
      have h5 := (pj_run_mono n _ h2).1
      dsimp only at h3 h5
      have h6 := pj_gd_t h4 h3
      rw [show dc + (mc - (t.2.2.2.2.1 + dc)) = mc - t.2.2.2.2.1 by omega] at h6
      exact h6
/-- the methods by their numbers, to a depth; those without a row of code are told by bi -/
noncomputable def pj_exec (P : List pj_M) (bi : pj_F) (f d : Nat) : pj_F := Nat.rec (motive := fun _ => pj_F) (fun _ _ _ => none) (fun k ih mi vs G => match P[mi]? with
  | none => none
  | some M => (match M.2.2.2.2.2 with
    | [] => if 12 ≤ k then bi mi vs G else none
    | _ :: _ => if (lg_sl vs).length ≤ M.2.2.1 then pj_run ih 0 pj_x0 M f (G, 0, lv_args 0 vs, [], 0, 0) else none)) d
theorem pj_exec_s {P : List pj_M} {bi : pj_F} {f d mi : Nat} {vs : List Value} {G : pj_G} {r : Option Value × pj_G × Nat × Nat} (h : pj_exec P bi f (d + 1) mi vs G = some r) : ∃ M, P[mi]? = some M ∧ ((M.2.2.2.2.2 = [] ∧ 12 ≤ d ∧ bi mi vs G = some r) ∨ ((lg_sl vs).length ≤ M.2.2.1 ∧ pj_run (pj_exec P bi f d) 0 pj_x0 M f (G, 0, lv_args 0 vs, [], 0, 0) = some r)) := by
  have h : (match P[mi]? with
    | none => none
    | some M => (match M.2.2.2.2.2 with
      | [] => if 12 ≤ d then bi mi vs G else none
      | _ :: _ => if (lg_sl vs).length ≤ M.2.2.1 then pj_run (pj_exec P bi f d) 0 pj_x0 M f (G, 0, lv_args 0 vs, [], 0, 0) else none)) = some r := h
  split at h
  · cases h
  · rename_i M hM
    refine ⟨M, hM, ?_⟩
    split at h
    · rename_i hc
      split at h
      · exact Or.inl ⟨hc, by assumption, h⟩
      · cases h
    · split at h
      · exact Or.inr ⟨by assumption, h⟩
      · cases h
theorem pj_exec_gd {P : List pj_M} {bi : pj_F} {f : Nat} (hbi : ∀ (mi : Nat) (vs : List Value) (G : pj_G) (v : Option Value) (G' : pj_G) (dc ds : Nat), bi mi vs G = some (v, G', dc, ds) → pj_gd G G' dc) : ∀ (d mi : Nat) (vs : List Value) (G : pj_G) (v : Option Value) (G' : pj_G) (dc ds : Nat), pj_exec P bi f d mi vs G = some (v, G', dc, ds) → pj_gd G G' dc
  | 0, mi, vs, G, v, G', dc, ds, h => by cases (show (none : pj_V) = some (v, G', dc, ds) from h)
  | d + 1, mi, vs, G, v, G', dc, ds, h => by
    obtain ⟨M, -, ⟨-, -, h1⟩ | ⟨-, h1⟩⟩ := pj_exec_s h
    · exact hbi _ _ _ _ _ _ _ h1
    · have h2 := pj_run_gd (pj_exec_gd hbi d) f _ h1
      exact h2
/-- a method's rows are the machine's -/
def pj_okR (P : List pj_M) (M : pj_M) : Bool := plainName M.1.cls && M.2.2.2.2.2.all (fun q => decide (decode M.2.1 q.1 = .ok (q.2.1, q.2.2.1)) && pj_ok P M.1.cls (decide (M.1.name = "<init>")) q.1 q.2.1 q.2.2.1 q.2.2.2.1 q.2.2.2.2)
theorem pj_okR_s {P : List pj_M} {M : pj_M} (h : pj_okR P M = true) {q : pj_I} (hq : q ∈ M.2.2.2.2.2) : decode M.2.1 q.1 = .ok (q.2.1, q.2.2.1) ∧ pj_ok P M.1.cls (decide (M.1.name = "<init>")) q.1 q.2.1 q.2.2.1 q.2.2.2.1 q.2.2.2.2 = true := by
  simp only [pj_okR, Bool.and_eq_true] at h
  have h1 := List.all_eq_true.mp h.2 q hq
  simp only [Bool.and_eq_true, decide_eq_true_eq] at h1
  exact h1
theorem pj_rt_len {P : List pj_M} {own : String} {ini : Bool} {pc : Nat} {i : Instr} {len : Nat} {inf : List Nat} {z : Int} {ret : Option FieldType} {S : List Value} {v : Option Value} (h : pj_rt ret i S = some v) (hok : pj_ok P own ini pc i len inf z = true) : len = 1 := by
  cases i
  case ireturn => exact of_decide_eq_true hok
  case lreturn => exact of_decide_eq_true hok
  case areturn => exact of_decide_eq_true hok
  case return_ => exact of_decide_eq_true hok
  all_goals cases (show (none : Option (Option Value)) = some v from h)
theorem pj_sl_len (ad : pj_A) : ∀ vs : List Value, (lg_sl (vs.map (pj_v ad))).length = (lg_sl vs).length
  | [] => rfl
  | v :: t => by
    have h := pj_sl_len ad t
    simp only [lg_sl, List.map_cons, List.flatMap_cons, List.length_append, pj_v_cat] at h ⊢
    rw [h]
    split <;> rfl
theorem pj_args (ad : pj_A) : ∀ (vs : List Value) (i : Nat), lv_args i (vs.map (pj_v ad)) = pj_l ad (lv_args i vs)
  | [], _ => rfl
  | v :: t, i => by
    simp only [List.map_cons, lv_args, pj_v_cat, pj_args ad t]
    rfl
section PJX
variable {p : Program} {l : Launch} {e : Env} {R : Room} {s : State} {m : MethodId} {args : Array Value} {below : List Frame} {meth : Method} {c : Code} {Q : State → Prop}
variable {b : Nat × (Nat → Nat)} {base : Nat} {cy : Nat → ClassId} {D : va_G} {n0 : Nat} {xs : Nat → Int32} {adV : Nat → Nat} {d : Nat}
/-- a run of the pure machine is a run of the machine -/
theorem pj_run_snd {call : pj_F} {P : List pj_M} {M : pj_M} {nL : Nat} {v : Option Value} {G' : pj_G} {mc ms : Nat} (hnL : M.2.2.1 = nL) (hokR : pj_okR P M = true)
    (hC0 : (p.tables.exec = Jvm.exec ∧ c.code = M.2.1 ∧ c.maxLocals = nL ∧ s.vm.findClass M.1.cls = some m.cls ∧ ∀ w ∈ pj_all, w.before args s = true) ∧ va_K D vwCl (pj_tys cy) s ∧ pj_O b base n0 xs adV s s.heap ∧ base ≤ s.heap.size) (hini : M.1.name = "<init>" → meth.name = "<init>")
    (hPl : P.length ≤ 1000) (hcall : ∀ (mi : Nat) (vs : List Value) (G : pj_G) (v : Option Value) (G' : pj_G) (dc ds : Nat), mi < 1000 → call mi vs G = some (v, G', dc, ds) → ∃ M, P[mi]? = some M ∧ pj_Met l b base cy D adV d M vs G v G' dc ds)
    (hcallH : ∀ (j : Nat) (vs : List Value) (G : pj_G) (v : Option Value) (G' : pj_G) (dc ds : Nat), call (1000 + j) vs G = some (v, G', dc, ds) → ∃ h, pj_hl[j]? = some h ∧ pj_MetH l b base cy D adV d h vs G v G' dc ds)
    (hgd : ∀ (mi : Nat) (vs : List Value) (G : pj_G) (v : Option Value) (G' : pj_G) (dc ds : Nat), call mi vs G = some (v, G', dc, ds) → pj_gd G G' dc)
    (hf : d + 1 ≤ R.frames) (hlo : 64 * (d + 1) ≤ R.locals) (hmc : mc ≤ R.cells) (hms : ms ≤ R.slots)
    (hend : ∀ (pc : Nat) (i : Instr) (L : pj_L) (S : List Value) (ls : Array Slot), decode M.2.1 pc = .ok (i, 1) → pj_rt M.2.2.2.1 i S = some v → lv_has ls nL (pj_l (pj_ad b base) L) → pj_N p l e R s m args below meth c Q b base cy D ls mc ms G' pc S) :
    ∀ (n : Nat) (t : pj_T), pj_run call n0 xs M n t = some (v, G', mc, ms) → (t.1.2 = true → s.heap.size + t.2.2.2.2.1 = base + t.1.1.length) → ∀ ls : Array Slot, lv_has ls nL (pj_l (pj_ad b base) t.2.2.1) → pj_N p l e R s m args below meth c Q b base cy D ls t.2.2.2.2.1 t.2.2.2.2.2 t.1 t.2.1 t.2.2.2.1
  | 0, t, h, _, _, _ => by cases (show (none : pj_V) = some (v, G', mc, ms) from h)
  | n + 1, t, h, hex, ls, hlv => by
    rw [pj_run_s] at h
    obtain ⟨q, hq, h1 | ⟨G2, pc2, L2, S2, dc, ds, h1, h2⟩⟩ := pj_one_s h
    · obtain ⟨g1, rfl, rfl, rfl⟩ := h1
      obtain ⟨g2, g3⟩ := pj_okR_s hokR hq
      have hl := pj_rt_len g1 g3
      exact hend _ q.1 _ _ ls (by rw [← hl]; exact g2) g1 hlv
    · obtain ⟨g2, g3⟩ := pj_okR_s hokR hq
      have hm := pj_run_mono n _ h2
      dsimp only at hm
      subst hnL
      refine pj_s_snd hC0 (fun z => hini (of_decide_eq_true z)) hlv hex hPl hcall hcallH g2 g3 h1 hf hlo (by omega) (by omega) (fun ls' hl' => ?_)
      have hgd2 := pj_s_gd hgd h1
      exact pj_run_snd rfl hokR hC0 hini hPl hcall hcallH hgd hf hlo hmc hms hend n _ h2 (fun z => by
        obtain ⟨a1, a2⟩ := hgd2 z
        have a3 := hex a1
        show s.heap.size + (t.2.2.2.2.1 + dc) = base + G2.1.length
        omega) ls' hl'
/-- THE CONTRACT of every method, out of its pure run -/
theorem pj_exec_snd {P : List pj_M} {bi : pj_F} {f : Nat} (hPl : P.length ≤ 1000) (hP : ∀ M ∈ P, pj_okR P M = true) (hbg : ∀ (mi : Nat) (vs : List Value) (G : pj_G) (v : Option Value) (G' : pj_G) (dc ds : Nat), bi mi vs G = some (v, G', dc, ds) → pj_gd G G' dc)
    (hbi : ∀ (d mi : Nat) (vs : List Value) (G : pj_G) (v : Option Value) (G' : pj_G) (dc ds : Nat) (M : pj_M), 12 ≤ d → P[mi]? = some M → bi mi vs G = some (v, G', dc, ds) → pj_Met l b base cy D adV (d + 1) M vs G v G' dc ds) :
    ∀ (d mi : Nat) (vs : List Value) (G : pj_G) (v : Option Value) (G' : pj_G) (dc ds : Nat), pj_exec P bi f d mi vs G = some (v, G', dc, ds) → ∃ M, P[mi]? = some M ∧ pj_Met l b base cy D adV d M vs G v G' dc ds
  | 0, mi, vs, G, v, G', dc, ds, h => by cases (show (none : pj_V) = some (v, G', dc, ds) from h)
  | d + 1, mi, vs, G, v, G', dc, ds, h => by
    obtain ⟨M, hM, ⟨-, h12, h1⟩ | ⟨hlen, h1⟩⟩ := pj_exec_s h
    · exact ⟨M, hM, hbi d mi vs G v G' dc ds M h12 hM h1⟩
    · refine ⟨M, hM, ?_⟩
      have hokR := hP M (List.mem_of_getElem? hM)
      have hpl : plainName M.1.cls = true := by
        have hh := hokR
        simp only [pj_okR, Bool.and_eq_true] at hh
        exact hh.1
      refine Met.ofW (cc := M.2.1) (maxL := M.2.2.1) (ret := M.2.2.2.1) hpl rfl ?_
      intro p e s m args below meth c s₁ B hml hv
      obtain ⟨rfl, hP0, hK, ⟨hbs, hexG⟩, hO⟩ := hv
      have hx := B.exec
      have hb := B.bytes
      have hr := B.returns
      have hts0 := atoms_spec (ws := pj_ws M.1 M.2.1 M.2.2.1 M.2.2.2.1) B.pre
      have hts : ∀ w ∈ pj_all, w.before (vs.map (pj_v (pj_ad b base))).toArray s = true := fun w hw => hts0 w (List.mem_cons_of_mem _ hw)
      have hown : s.vm.findClass M.1.cls = some m.cls := findClass_of_methodNamed B.named
      have hlocks := B.notSynchronized
      have hnm : meth.name = M.1.name := (name_of_methodNamed B.named B.method).1
      have hl := lv_entry (vs.map (pj_v (pj_ad b base))) (n := M.2.2.1) (by rw [pj_sl_len]; exact hlen)
      rw [lg_entry_eq]
      generalize (lg_sl (vs.map (pj_v (pj_ad b base))) ++ List.replicate (M.2.2.1 - (lg_sl (vs.map (pj_v (pj_ad b base)))).length) Slot.unset).toArray = ls at hl ⊢
      rw [pj_args] at hl
      have key := pj_run_snd (p := p) (l := l) (e := e) (R := (headSpec (pj_ws M.1 M.2.1 M.2.2.1 M.2.2.2.1) (pj_rm (d + 1) dc ds)).room) (s := s) (m := m) (args := (vs.map (pj_v (pj_ad b base))).toArray) (below := below) (meth := meth) (c := c) (Q := MQ below (pj_Q b base cy D v G') (vs.map (pj_v (pj_ad b base))).toArray s dc ds (fun q => base ≤ q)) (n0 := 0) (xs := pj_x0) (adV := adV) (d := d) (v := v) (G' := G') (mc := dc) (ms := ds) rfl hokR ⟨⟨hx, hb, hml, hown, hts⟩, hK, hO, hbs⟩ (fun z => hnm.trans z) hPl (fun mi vs G v G2 dc2 ds2 _ => pj_exec_snd hPl hP hbg hbi d mi vs G v G2 dc2 ds2) (fun j vs2 G2 v2 G3 dc2 ds2 h9 => by
        obtain ⟨M9, hM9, -⟩ := pj_exec_snd hPl hP hbg hbi d _ _ _ _ _ _ _ h9
        have := (List.getElem?_eq_some_iff.mp hM9).1
        omega) (pj_exec_gd hbg d) (Nat.le_refl _) (Nat.le_refl _) (Nat.le_refl _) (Nat.le_refl _) ?_ f _ h1 (fun z => by have := hexG z; show s.heap.size + 0 = base + G.1.length; omega) ls hl
      · exact key s.heap [] hP0 va_S.rf
      · intro pc i L S ls2 hdg hrt hl2 H locs hP1 hS1
        have hq : ∀ (w : Option Value), w = v → ∀ t : State, t.heap = H → s.WarmedH t.vm → pj_Q b base cy D v G' (vs.map (pj_v (pj_ad b base))).toArray s (.returned (w.map (pj_v (pj_ad b base)))) t := fun w hw t ht _ => ⟨by rw [hw], by rw [ht]; exact hP1, hS1.F ht⟩
        cases i
        case ireturn =>
          simp only [pj_rt] at hrt
          split at hrt
          · rename_i x
            split at hrt
            · rename_i hre
              cases hrt
              exact W.iret (v := x) hx hb (hr.trans hre) (hq _ rfl) hS1.2.2 hdg
            · rename_i ty _ hre
              split at hrt
              · rename_i hn
                cases hrt
                exact W.zret (v := x) hx hb (hr.trans hre) hn (hq _ rfl) hS1.2.2 hdg
              · cases hrt
            · cases hrt
          · cases hrt
        case lreturn =>
          simp only [pj_rt] at hrt
          split at hrt
          · rename_i x hre
            cases hrt
            exact W.lret (v := x) hx hb (hr.trans hre) (hq _ rfl) hS1.2.2 hdg
          · cases hrt
        case areturn =>
          simp only [pj_rt] at hrt
          split at hrt
          · rename_i x _ hre
            cases hrt
            exact W.aret hx hb (hr.trans hre) (Or.inl ⟨_, rfl⟩) (Or.inr ⟨_, rfl⟩) (hq _ rfl) hS1.2.2 hdg
          · rename_i x _ hre
            cases hrt
            exact W.aret hx hb (hr.trans hre) (Or.inl ⟨_, rfl⟩) (Or.inr ⟨_, rfl⟩) (hq _ rfl) hS1.2.2 hdg
          · cases hrt
        case return_ =>
          simp only [pj_rt] at hrt
          split at hrt
          · rename_i hre
            cases hrt
            exact W.vret hx hb (hr.trans hre) (hq _ rfl) hS1.2.2 hdg
          · cases hrt
        all_goals cases (show (none : Option (Option Value)) = some v from hrt)
end PJX
