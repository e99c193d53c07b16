/-! AN ABSTRACT MACHINE: a value is exact, or any int (any long) of an interval; the heap is exact -/
abbrev pj_AV : Type := Value × Option (Int × Int)
def pj_ga (a : pj_AV) (v : Value) : Prop := match a.2 with
  | none => v = a.1
  | some q => (match a.1 with
    | .int _ => ∃ x : Int32, v = .int x ∧ q.1 ≤ x.toInt ∧ x.toInt ≤ q.2
    | .long _ => ∃ x : Int64, v = .long x ∧ q.1 ≤ x.toInt ∧ x.toInt ≤ q.2
    | _ => False)
def pj_gs : List pj_AV → List Value → Prop
  | [], [] => True
  | a :: s, v :: t => pj_ga a v ∧ pj_gs s t
  | _, _ => False
abbrev pj_AL : Type := List (Nat × pj_AV)
def pj_gl : pj_AL → pj_L → Prop
  | [], [] => True
  | a :: s, v :: t => (a.1 = v.1 ∧ pj_ga a.2 v.2) ∧ pj_gl s t
  | _, _ => False
theorem pj_gs_nil {V : List Value} (h : pj_gs [] V) : V = [] := by
  cases V with
  | nil => rfl
  | cons v t => exact h.elim
theorem pj_gs_cons {a : pj_AV} {s : List pj_AV} {V : List Value} (h : pj_gs (a :: s) V) : ∃ v t, V = v :: t ∧ pj_ga a v ∧ pj_gs s t := by
  cases V with
  | nil => exact h.elim
  | cons v t => exact ⟨v, t, rfl, h.1, h.2⟩
theorem pj_ga_cat {a : pj_AV} {v : Value} (h : pj_ga a v) : v.category = a.1.category := by
  obtain ⟨w, q⟩ := a
  cases q with
  | none => rw [show v = w from h]
  | some q =>
    cases w
    case int x => obtain ⟨y, rfl, -⟩ := h; rfl
    case long x => obtain ⟨y, rfl, -⟩ := h; rfl
    all_goals exact (h : False).elim
theorem pj_gs_len : ∀ {s : List pj_AV} {V : List Value}, pj_gs s V → V.length = s.length
  | [], V, h => by rw [pj_gs_nil h]; rfl
  | a :: s, V, h => by
    obtain ⟨v, t, rfl, -, h2⟩ := pj_gs_cons h
    rw [List.length_cons, List.length_cons, pj_gs_len h2]
theorem pj_gs_cats : ∀ {s : List pj_AV} {V : List Value}, pj_gs s V → V.map Value.category = s.map (fun a => a.1.category)
  | [], V, h => by rw [pj_gs_nil h]; rfl
  | a :: s, V, h => by
    obtain ⟨v, t, rfl, h1, h2⟩ := pj_gs_cons h
    rw [List.map_cons, List.map_cons, pj_gs_cats h2, pj_ga_cat h1]
theorem pj_gs_take : ∀ (n : Nat) {s : List pj_AV} {V : List Value}, pj_gs s V → pj_gs (s.take n) (V.take n) ∧ pj_gs (s.drop n) (V.drop n)
  | 0, s, V, h => ⟨trivial, h⟩
  | n + 1, [], V, h => by rw [pj_gs_nil h]; exact ⟨trivial, trivial⟩
  | n + 1, a :: s, V, h => by
    obtain ⟨v, t, rfl, h1, h2⟩ := pj_gs_cons h
    obtain ⟨g1, g2⟩ := pj_gs_take n h2
    exact ⟨⟨h1, g1⟩, g2⟩
theorem pj_gs_app : ∀ {s t : List pj_AV} {V U : List Value}, pj_gs s V → pj_gs t U → pj_gs (s ++ t) (V ++ U)
  | [], t, V, U, h, h' => by rw [pj_gs_nil h]; exact h'
  | a :: s, t, V, U, h, h' => by
    obtain ⟨v, w, rfl, h1, h2⟩ := pj_gs_cons h
    exact ⟨h1, pj_gs_app h2 h'⟩
theorem pj_gs_rev : ∀ {s : List pj_AV} {V : List Value}, pj_gs s V → pj_gs s.reverse V.reverse
  | [], V, h => by rw [pj_gs_nil h]; exact trivial
  | a :: s, V, h => by
    obtain ⟨v, w, rfl, h1, h2⟩ := pj_gs_cons h
    rw [List.reverse_cons, List.reverse_cons]
    exact pj_gs_app (pj_gs_rev h2) ⟨h1, trivial⟩
theorem pj_gs_ex : ∀ (B : List Value), pj_gs (B.map (fun v => (v, none))) B
  | [] => trivial
  | v :: t => ⟨rfl, pj_gs_ex t⟩
/-- the exact top of a stack, and what lies below it -/
def pj_ypre : List pj_AV → List Value
  | (v, none) :: t => v :: pj_ypre t
  | _ => []
def pj_ysuf : List pj_AV → List pj_AV
  | (_, none) :: t => pj_ysuf t
  | s => s
theorem pj_ypre_s : ∀ {s : List pj_AV} {V : List Value}, pj_gs s V → ∃ R, V = pj_ypre s ++ R ∧ pj_gs (pj_ysuf s) R
  | [], V, h => ⟨V, rfl, h⟩
  | (w, none) :: s, V, h => by
    obtain ⟨v, t, rfl, h1, h2⟩ := pj_gs_cons h
    obtain ⟨R, e, hR⟩ := pj_ypre_s h2
    refine ⟨R, ?_, hR⟩
    show v :: t = w :: (pj_ypre s ++ R)
    rw [e, show v = w from h1]
  | (w, some q) :: s, V, h => ⟨V, rfl, h⟩
/-- steps of the stack alone see its top -/
theorem pj_k_app {i : Instr} {A B : List Value} (R : List Value) (h : pj_k i A = some B) : pj_k i (A ++ R) = some (B ++ R) := by
  have hb : ∀ f : Int32 → Int32 → Int32, pj_bi f A = some B → pj_bi f (A ++ R) = some (B ++ R) := fun f h => by
    unfold pj_bi at h
    split at h
    · cases h; rfl
    · cases h
  have hl : ∀ f : Int64 → Int64 → Int64, pj_bl f A = some B → pj_bl f (A ++ R) = some (B ++ R) := fun f h => by
    unfold pj_bl at h
    split at h
    · cases h; rfl
    · cases h
  have hdi : ∀ f : Int32 → Int32 → Int32, pj_di f A = some B → pj_di f (A ++ R) = some (B ++ R) := fun f h => by
    unfold pj_di at h
    split at h
    · split at h
      · cases h
      · rename_i hy
        cases h
        exact if_neg hy
    · cases h
  have hdl : ∀ f : Int64 → Int64 → Int64, pj_dl f A = some B → pj_dl f (A ++ R) = some (B ++ R) := fun f h => by
    unfold pj_dl at h
    split at h
    · split at h
      · cases h
      · rename_i hy
        cases h
        exact if_neg hy
    · cases h
  have hu : ∀ f : Int32 → Int32, pj_ui f A = some B → pj_ui f (A ++ R) = some (B ++ R) := fun f h => by
    unfold pj_ui at h
    split at h
    · cases h; rfl
    · cases h
  cases i
  case iconst => cases h; rfl
  case bipush => cases h; rfl
  case sipush => cases h; rfl
  case lconst => cases h; rfl
  case iadd => exact hb _ h
  case isub => exact hb _ h
  case imul => exact hb _ h
  case iand => exact hb _ h
  case ior => exact hb _ h
  case ixor => exact hb _ h
  case ishl => exact hb _ h
  case ishr => exact hb _ h
  case iushr => exact hb _ h
  case ladd => exact hl _ h
  case lsub => exact hl _ h
  case lmul => exact hl _ h
  case idiv => exact hdi _ h
  case irem => exact hdi _ h
  case ldiv => exact hdl _ h
  case lrem => exact hdl _ h
  case ineg => exact hu _ h
  case i2b => exact hu _ h
  case i2s => exact hu _ h
  case i2c => exact hu _ h
  case i2l =>
    have h : pj_i2l A = some B := h
    show pj_i2l (A ++ R) = some (B ++ R)
    unfold pj_i2l at h
    split at h
    · cases h; rfl
    · cases h
  case l2i =>
    have h : pj_l2i A = some B := h
    show pj_l2i (A ++ R) = some (B ++ R)
    unfold pj_l2i at h
    split at h
    · cases h; rfl
    · cases h
  case lcmp =>
    have h : pj_lcmp A = some B := h
    show pj_lcmp (A ++ R) = some (B ++ R)
    unfold pj_lcmp at h
    split at h
    · cases h; rfl
    · cases h
  case dup =>
    have h : pj_dup A = some B := h
    show pj_dup (A ++ R) = some (B ++ R)
    unfold pj_dup at h
    split at h
    · split at h
      · rename_i hc
        cases h
        exact if_pos hc
      · cases h
    · cases h
  case pop =>
    have h : pj_pop A = some B := h
    show pj_pop (A ++ R) = some (B ++ R)
    unfold pj_pop at h
    split at h
    · split at h
      · rename_i hc
        cases h
        exact if_pos hc
      · cases h
    · cases h
  case dup2 =>
    have h : pj_dup2 A = some B := h
    show pj_dup2 (A ++ R) = some (B ++ R)
    unfold pj_dup2 at h
    split at h
    · split at h
      · rename_i hc
        cases h
        exact if_pos hc
      · cases h
    · cases h; rfl
    · cases h
  all_goals cases (show (none : Option (List Value)) = some B from h)
/-- ints, longs, comparisons -/
def pj_iv : pj_AV → Option (Int × Int)
  | (.int x, none) => some (x.toInt, x.toInt)
  | (.int _, some q) => some q
  | _ => none
def pj_lv : pj_AV → Option (Int × Int)
  | (.long x, none) => some (x.toInt, x.toInt)
  | (.long _, some q) => some q
  | _ => none
theorem pj_iv_s {a : pj_AV} {v : Value} {q : Int × Int} (hg : pj_ga a v) (h : pj_iv a = some q) : ∃ x : Int32, v = .int x ∧ q.1 ≤ x.toInt ∧ x.toInt ≤ q.2 := by
  unfold pj_iv at h
  split at h
  · cases h
    exact ⟨_, hg, Int.le_refl _, Int.le_refl _⟩
  · cases h
    exact hg
  · cases h
theorem pj_lv_s {a : pj_AV} {v : Value} {q : Int × Int} (hg : pj_ga a v) (h : pj_lv a = some q) : ∃ x : Int64, v = .long x ∧ q.1 ≤ x.toInt ∧ x.toInt ≤ q.2 := by
  unfold pj_lv at h
  split at h
  · cases h
    exact ⟨_, hg, Int.le_refl _, Int.le_refl _⟩
  · cases h
    exact hg
  · cases h
def pj_cd (c : Jvm.ClassFile.Cond) (x y : Int × Int) : Option Bool := match c with
  | .lt => if x.2 < y.1 then some true else if y.2 ≤ x.1 then some false else none
  | .ge => if y.2 ≤ x.1 then some true else if x.2 < y.1 then some false else none
  | .gt => if y.2 < x.1 then some true else if x.2 ≤ y.1 then some false else none
  | .le => if x.2 ≤ y.1 then some true else if y.2 < x.1 then some false else none
  | .eq => if x.2 < y.1 ∨ y.2 < x.1 then some false else if x.1 = x.2 ∧ y.1 = y.2 ∧ x.1 = y.1 then some true else none
  | .ne => if x.2 < y.1 ∨ y.2 < x.1 then some true else if x.1 = x.2 ∧ y.1 = y.2 ∧ x.1 = y.1 then some false else none
theorem pj_cd_s {c : Jvm.ClassFile.Cond} {x y : Int × Int} {b : Bool} {u v : Int32} (h : pj_cd c x y = some b) (hu : x.1 ≤ u.toInt ∧ u.toInt ≤ x.2) (hv : y.1 ≤ v.toInt ∧ v.toInt ≤ y.2) : pj_c1 c u v = b := by
  cases c <;> simp only [pj_cd] at h <;> split at h
  all_goals (try split at h)
  all_goals cases h
  all_goals simp only [pj_c1, decide_eq_true_eq, decide_eq_false_iff_not, ← Int32.toInt_inj, Int32.lt_iff_toInt_lt, Int32.le_iff_toInt_le]
  all_goals omega
def pj_lc3 (x y : Int × Int) : Int × Int := (if y.2 < x.1 then 1 else if y.2 ≤ x.1 then 0 else -1, if x.2 < y.1 then -1 else if x.2 ≤ y.1 then 0 else 1)
theorem pj_lc3_s {x y : Int × Int} {u v : Int64} (hu : x.1 ≤ u.toInt ∧ u.toInt ≤ x.2) (hv : y.1 ≤ v.toInt ∧ v.toInt ≤ y.2) : (pj_lc3 x y).1 ≤ (lg_cmp u v).toInt ∧ (lg_cmp u v).toInt ≤ (pj_lc3 x y).2 := by
  have e1 : (1 : Int32).toInt = 1 := by decide
  have e0 : (0 : Int32).toInt = 0 := by decide
  have e2 : (-1 : Int32).toInt = -1 := by decide
  unfold lg_cmp pj_lc3
  simp only [gt_iff_lt, Int64.lt_iff_toInt_lt, ← Int64.toInt_inj]
  by_cases h1 : v.toInt < u.toInt
  · rw [if_pos h1, e1]
    constructor <;> split <;> (try split) <;> omega
  · rw [if_neg h1]
    by_cases h2 : u.toInt = v.toInt
    · rw [if_pos h2, e0]
      constructor <;> split <;> (try split) <;> omega
    · rw [if_neg h2, e2]
      constructor <;> split <;> (try split) <;> omega
/-- the locals -/
def pj_yld : pj_AL → Nat → Option pj_AV
  | [], _ => none
  | (k, v) :: t, i => if k = i then some v else pj_yld t i
theorem pj_yld_s : ∀ {A : pj_AL} {L : pj_L} {i : Nat} {a : pj_AV}, pj_gl A L → pj_yld A i = some a → ∃ v, pj_ld L i = some v ∧ pj_ga a v
  | [], L, i, a, _, h => by cases h
  | (k, w) :: A, [], i, a, hg, h => hg.elim
  | (k, w) :: A, (j, v) :: L, i, a, hg, h => by
    obtain ⟨⟨e, h1⟩, h2⟩ := hg
    have e : k = j := e
    subst e
    simp only [pj_yld] at h
    simp only [pj_ld]
    split at h
    · rename_i hk
      cases h
      rw [if_pos hk]
      exact ⟨v, rfl, h1⟩
    · rename_i hk
      rw [if_neg hk]
      exact pj_yld_s h2 h
def pj_yf1 (i : Nat) (q : Nat × pj_AV) : Bool := !(q.1 == i) && !(q.1 + 1 == i && q.2.1.category == 2)
def pj_yf2 (i : Nat) (q : Nat × pj_AV) : Bool := !(q.1 == i) && (!(q.1 == i + 1) && !(q.1 + 1 == i && q.2.1.category == 2))
theorem pj_gl_f {f : Nat × pj_AV → Bool} {g : Nat × Value → Bool} (hfg : ∀ (k : Nat) (a : pj_AV) (v : Value), pj_ga a v → f (k, a) = g (k, v)) : ∀ {A : pj_AL} {L : pj_L}, pj_gl A L → pj_gl (A.filter f) (L.filter g)
  | [], [], _ => trivial
  | [], v :: L, h => h.elim
  | a :: A, [], h => h.elim
  | (k, a) :: A, (j, v) :: L, h => by
    obtain ⟨⟨e, h1⟩, h2⟩ := h
    have e : k = j := e
    subst e
    have h3 := pj_gl_f hfg h2
    rw [List.filter_cons, List.filter_cons, hfg k a v h1]
    split
    · exact ⟨⟨rfl, h1⟩, h3⟩
    · exact h3
theorem pj_gl_1 {A : pj_AL} {L : pj_L} {i : Nat} {a : pj_AV} {v : Value} (h : pj_gl A L) (ha : pj_ga a v) : pj_gl ((i, a) :: A.filter (pj_yf1 i)) (pj_st1 L i v) :=
  ⟨⟨rfl, ha⟩, pj_gl_f (fun k a v hv => by simp only [pj_yf1, pj_f1, pj_ga_cat hv]) h⟩
theorem pj_gl_2 {A : pj_AL} {L : pj_L} {i : Nat} {a : pj_AV} {v : Value} (h : pj_gl A L) (ha : pj_ga a v) : pj_gl ((i, a) :: A.filter (pj_yf2 i)) (pj_st2 L i v) :=
  ⟨⟨rfl, ha⟩, pj_gl_f (fun k a v hv => by simp only [pj_yf2, pj_f2, pj_ga_cat hv]) h⟩
def pj_yargs : Nat → List pj_AV → pj_AL
  | _, [] => []
  | i, a :: t => (i, a) :: pj_yargs (if a.1.category = 2 then i + 2 else i + 1) t
theorem pj_yargs_s : ∀ {s : List pj_AV} {V : List Value} (i : Nat), pj_gs s V → pj_gl (pj_yargs i s) (lv_args i V)
  | [], V, i, h => by rw [pj_gs_nil h]; exact trivial
  | a :: s, V, i, h => by
    obtain ⟨v, t, rfl, h1, h2⟩ := pj_gs_cons h
    show pj_gl ((i, a) :: pj_yargs (if a.1.category = 2 then i + 2 else i + 1) s) ((i, v) :: lv_args (if v.category = 2 then i + 2 else i + 1) t)
    rw [pj_ga_cat h1]
    exact ⟨⟨rfl, h1⟩, pj_yargs_s _ h2⟩
