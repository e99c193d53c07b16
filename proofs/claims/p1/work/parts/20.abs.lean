/-! ABSTRACT STEPS -/
abbrev pj_AT : Type := pj_G × Nat × pj_AL × List pj_AV × Nat × Nat
abbrev pj_AF : Type := Nat → List pj_AV → pj_G → Option (Option pj_AV × pj_G × Nat × Nat)
theorem pj_ga_int {x : Int32} {q : Option (Int × Int)} {v : Value} (h : pj_ga (.int x, q) v) : ∃ y, v = .int y := by
  cases q with
  | none => exact ⟨x, h⟩
  | some q => obtain ⟨y, e, -⟩ := h; exact ⟨y, e⟩
theorem pj_ga_long {x : Int64} {q : Option (Int × Int)} {v : Value} (h : pj_ga (.long x, q) v) : ∃ y, v = .long y := by
  cases q with
  | none => exact ⟨x, h⟩
  | some q => obtain ⟨y, e, -⟩ := h; exact ⟨y, e⟩
def pj_yli (L : pj_AL) (i : Nat) (S : List pj_AV) : Option (pj_AL × List pj_AV) := match pj_yld L i with
  | some (.int x, q) => some (L, (.int x, q) :: S)
  | _ => none
def pj_yll (L : pj_AL) (i : Nat) (S : List pj_AV) : Option (pj_AL × List pj_AV) := match pj_yld L i with
  | some (.long x, q) => some (L, (.long x, q) :: S)
  | _ => none
def pj_yla (L : pj_AL) (i : Nat) (S : List pj_AV) : Option (pj_AL × List pj_AV) := match pj_yld L i with
  | some (.ref x, none) => some (L, (.ref x, none) :: S)
  | some (.retAddr x, none) => some (L, (.retAddr x, none) :: S)
  | _ => none
def pj_ysi (nL : Nat) (L : pj_AL) (i : Nat) : List pj_AV → Option (pj_AL × List pj_AV)
  | (.int x, q) :: r => if i < nL then some ((i, (.int x, q)) :: L.filter (pj_yf1 i), r) else none
  | _ => none
def pj_ysl (nL : Nat) (L : pj_AL) (i : Nat) : List pj_AV → Option (pj_AL × List pj_AV)
  | (.long x, q) :: r => if i + 1 < nL then some ((i, (.long x, q)) :: L.filter (pj_yf2 i), r) else none
  | _ => none
def pj_ysa (nL : Nat) (L : pj_AL) (i : Nat) : List pj_AV → Option (pj_AL × List pj_AV)
  | (.ref x, none) :: r => if i < nL then some ((i, (.ref x, none)) :: L.filter (pj_yf1 i), r) else none
  | _ => none
def pj_yic (nL : Nat) (L : pj_AL) (i : Nat) (n : Int) (S : List pj_AV) : Option (pj_AL × List pj_AV) := match pj_yld L i with
  | some (.int x, none) => if i < nL then some ((i, (.int (x + Int32.ofInt n), none)) :: L.filter (pj_yf1 i), S) else none
  | _ => none
def pj_ykl (nL : Nat) (i : Instr) (L : pj_AL) (S : List pj_AV) : Option (pj_AL × List pj_AV) := match i with
  | .iload_n k => pj_yli L k S
  | .iload k => pj_yli L k S
  | .lload_n k => pj_yll L k S
  | .lload k => pj_yll L k S
  | .aload_n k => pj_yla L k S
  | .aload k => pj_yla L k S
  | .istore_n k => pj_ysi nL L k S
  | .istore k => pj_ysi nL L k S
  | .lstore_n k => pj_ysl nL L k S
  | .lstore k => pj_ysl nL L k S
  | .astore_n k => pj_ysa nL L k S
  | .astore k => pj_ysa nL L k S
  | .iinc k n => pj_yic nL L k n S
  | _ => none
theorem pj_ykl_s {nL : Nat} {i : Instr} {A A' : pj_AL} {SA SA' : List pj_AV} {L : pj_L} {S : List Value} (h : pj_ykl nL i A SA = some (A', SA')) (hl : pj_gl A L) (hs : pj_gs SA S) : ∃ L' S', pj_kl nL i L S = some (L', S') ∧ pj_gl A' L' ∧ pj_gs SA' S' := by
  have gli : ∀ k, pj_yli A k SA = some (A', SA') → ∃ L' S', pj_li L k S = some (L', S') ∧ pj_gl A' L' ∧ pj_gs SA' S' := fun k h => by
    unfold pj_yli at h
    split at h
    · rename_i x q hy
      cases h
      obtain ⟨v, h1, h2⟩ := pj_yld_s hl hy
      obtain ⟨y, rfl⟩ := pj_ga_int h2
      refine ⟨L, .int y :: S, ?_, hl, h2, hs⟩
      unfold pj_li
      rw [h1]
    · cases h
  have gll : ∀ k, pj_yll A k SA = some (A', SA') → ∃ L' S', pj_ll L k S = some (L', S') ∧ pj_gl A' L' ∧ pj_gs SA' S' := fun k h => by
    unfold pj_yll at h
    split at h
    · rename_i x q hy
      cases h
      obtain ⟨v, h1, h2⟩ := pj_yld_s hl hy
      obtain ⟨y, rfl⟩ := pj_ga_long h2
      refine ⟨L, .long y :: S, ?_, hl, h2, hs⟩
      unfold pj_ll
      rw [h1]
    · cases h
  have gla : ∀ k, pj_yla A k SA = some (A', SA') → ∃ L' S', pj_la L k S = some (L', S') ∧ pj_gl A' L' ∧ pj_gs SA' S' := fun k h => by
    unfold pj_yla at h
    split at h
    · rename_i x hy
      cases h
      obtain ⟨v, h1, h2⟩ := pj_yld_s hl hy
      have h2 : v = .ref x := h2
      subst h2
      refine ⟨L, .ref x :: S, ?_, hl, rfl, hs⟩
      unfold pj_la
      rw [h1]
    · rename_i x hy
      cases h
      obtain ⟨v, h1, h2⟩ := pj_yld_s hl hy
      have h2 : v = .retAddr x := h2
      subst h2
      refine ⟨L, .retAddr x :: S, ?_, hl, rfl, hs⟩
      unfold pj_la
      rw [h1]
    · cases h
  have gsi : ∀ k, pj_ysi nL A k SA = some (A', SA') → ∃ L' S', pj_si nL L k S = some (L', S') ∧ pj_gl A' L' ∧ pj_gs SA' S' := fun k h => by
    unfold pj_ysi at h
    split at h
    · split at h
      · rename_i hk
        cases h
        obtain ⟨v, t, rfl, h1, h2⟩ := pj_gs_cons hs
        obtain ⟨y, rfl⟩ := pj_ga_int h1
        exact ⟨_, t, if_pos hk, pj_gl_1 hl h1, h2⟩
      · cases h
    · cases h
  have gsl : ∀ k, pj_ysl nL A k SA = some (A', SA') → ∃ L' S', pj_sl nL L k S = some (L', S') ∧ pj_gl A' L' ∧ pj_gs SA' S' := fun k h => by
    unfold pj_ysl at h
    split at h
    · split at h
      · rename_i hk
        cases h
        obtain ⟨v, t, rfl, h1, h2⟩ := pj_gs_cons hs
        obtain ⟨y, rfl⟩ := pj_ga_long h1
        exact ⟨_, t, if_pos hk, pj_gl_2 hl h1, h2⟩
      · cases h
    · cases h
  have gsa : ∀ k, pj_ysa nL A k SA = some (A', SA') → ∃ L' S', pj_sa nL L k S = some (L', S') ∧ pj_gl A' L' ∧ pj_gs SA' S' := fun k h => by
    unfold pj_ysa at h
    split at h
    · split at h
      · rename_i hk
        cases h
        obtain ⟨v, t, rfl, h1, h2⟩ := pj_gs_cons hs
        have h1 : v = _ := h1
        subst h1
        exact ⟨_, t, if_pos hk, pj_gl_1 hl rfl, h2⟩
      · cases h
    · cases h
  have gic : ∀ k n, pj_yic nL A k n SA = some (A', SA') → ∃ L' S', pj_ic nL L k n S = some (L', S') ∧ pj_gl A' L' ∧ pj_gs SA' S' := fun k n h => by
    unfold pj_yic at h
    split at h
    · rename_i x hy
      split at h
      · rename_i hk
        cases h
        obtain ⟨v, h1, h2⟩ := pj_yld_s hl hy
        have h2 : v = .int x := h2
        subst h2
        refine ⟨pj_st1 L k (.int (x + Int32.ofInt n)), S, ?_, pj_gl_1 hl rfl, hs⟩
        unfold pj_ic
        rw [h1]
        exact if_pos hk
      · cases h
    · cases h
  cases i
  case iload_n k => exact gli k h
  case iload k => exact gli k h
  case lload_n k => exact gll k h
  case lload k => exact gll k h
  case aload_n k => exact gla k h
  case aload k => exact gla k h
  case istore_n k => exact gsi k h
  case istore k => exact gsi k h
  case lstore_n k => exact gsl k h
  case lstore k => exact gsl k h
  case astore_n k => exact gsa k h
  case astore k => exact gsa k h
  case iinc k n => exact gic k n h
  all_goals cases (show (none : Option (pj_AL × List pj_AV)) = some (A', SA') from h)
/-- calls -/
def pj_go : Option pj_AV → Option Value → Prop
  | none, none => True
  | some a, some v => pj_ga a v
  | _, _ => False
theorem pj_go_l {a : Option pj_AV} {v : Option Value} (h : pj_go a v) : pj_gs a.toList v.toList := by
  cases a with
  | none =>
    cases v with
    | none => exact trivial
    | some v => exact h.elim
  | some a =>
    cases v with
    | none => exact h.elim
    | some v => exact ⟨h, trivial⟩
theorem pj_rcv_hd (k ci : Nat) (G : pj_G) (w : Value) (t u : List Value) : pj_rcv k ci G (w :: t) = pj_rcv k ci G (w :: u) := by
  unfold pj_rcv
  split <;> cases w <;> rfl
theorem pj_rcv_int (k ci : Nat) (G : pj_G) (x y : Int32) (t u : List Value) : pj_rcv k ci G (.int x :: t) = pj_rcv k ci G (.int y :: u) := by
  unfold pj_rcv
  split <;> rfl
theorem pj_rcv_long (k ci : Nat) (G : pj_G) (x y : Int64) (t u : List Value) : pj_rcv k ci G (.long x :: t) = pj_rcv k ci G (.long y :: u) := by
  unfold pj_rcv
  split <;> rfl
theorem pj_rcv_s {k ci : Nat} {G : pj_G} {s : List pj_AV} {V : List Value} (h : pj_gs s V) : pj_rcv k ci G V = pj_rcv k ci G (s.map (fun a => a.1)) := by
  cases s with
  | nil => rw [pj_gs_nil h]; rfl
  | cons a s =>
    obtain ⟨v, t, rfl, h1, h2⟩ := pj_gs_cons h
    obtain ⟨w, q⟩ := a
    rw [List.map_cons]
    cases q with
    | none =>
      have h1 : v = w := h1
      subst h1
      exact pj_rcv_hd k ci G v _ _
    | some q =>
      cases w
      case int x => obtain ⟨y, rfl, -⟩ := h1; exact pj_rcv_int k ci G _ _ _ _
      case long x => obtain ⟨y, rfl, -⟩ := h1; exact pj_rcv_long k ci G _ _ _ _
      all_goals exact (h1 : False).elim
def pj_yinv (ac : pj_AF) (inf : List Nat) (G : pj_G) (S : List pj_AV) : Option (pj_G × List pj_AV × Nat × Nat) :=
  if inf.getD 1 0 ≤ S.length ∧ ((S.drop (inf.getD 1 0)).map (fun a => a.1.category)).sum ≤ 8 ∧ pj_rcv (inf.getD 0 0) (inf.getD 3 0) G ((S.take (inf.getD 1 0)).reverse.map (fun a => a.1)) = true then
    (match ac (inf.getD 2 0) (S.take (inf.getD 1 0)).reverse G with
    | some r => some (r.2.1, r.1.toList ++ S.drop (inf.getD 1 0), r.2.2.1, r.2.2.2)
    | none => none)
  else none
abbrev pj_okA (ac : pj_AF) (call : pj_F) : Prop := ∀ (mi : Nat) (as : List pj_AV) (G : pj_G) (vs : List Value) (r : Option pj_AV × pj_G × Nat × Nat), pj_gs as vs → ac mi as G = some r → ∃ v, pj_go r.1 v ∧ call mi vs G = some (v, r.2)
theorem pj_yinv_s {ac : pj_AF} {call : pj_F} (hc : pj_okA ac call) {inf : List Nat} {G G' : pj_G} {SA SA' : List pj_AV} {S : List Value} {dc ds : Nat} (h : pj_yinv ac inf G SA = some (G', SA', dc, ds)) (hs : pj_gs SA S) : ∃ S', pj_inv call inf G S = some (G', S', dc, ds) ∧ pj_gs SA' S' := by
  unfold pj_yinv at h
  split at h
  · rename_i hg
    obtain ⟨g1, g2, g3⟩ := hg
    obtain ⟨t1, t2⟩ := pj_gs_take (inf.getD 1 0) hs
    have t3 := pj_gs_rev t1
    split at h
    · rename_i r hr
      cases h
      obtain ⟨v, hv, hcall⟩ := hc _ _ _ _ _ t3 hr
      refine ⟨v.toList ++ S.drop (inf.getD 1 0), ?_, pj_gs_app (pj_go_l hv) t2⟩
      unfold pj_inv
      rw [if_pos ⟨by rw [pj_gs_len hs]; exact g1, by rw [pj_gs_cats t2]; exact g2, by rw [pj_rcv_s t3]; exact g3⟩, hcall]
    · cases h
  · cases h
