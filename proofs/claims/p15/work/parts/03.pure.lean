/-! THE PURE MACHINE. Cells stand in a list; a ref is virtual: 0 is the law's script, i + 1 the i-th cell that was made. -/
abbrev pj_C : Type := (Nat × vp_A) ⊕ (Nat × List Value)
/-- the cells, and whether the heap holds nothing else behind its base -/
abbrev pj_G : Type := List pj_C × Bool
abbrev pj_L : Type := List (Nat × Value)
/-- where the virtual places really are: of cells, of String constants (told as retAddr) -/
abbrev pj_A : Type := (Nat → Nat) × (Nat → Nat)
def pj_ad0 (b base : Nat) : Nat → Nat
  | 0 => b
  | i + 1 => base + i
def pj_ad (b : Nat × (Nat → Nat)) (base : Nat) : pj_A := (pj_ad0 b.1 base, b.2)
def pj_v (ad : pj_A) : Value → Value
  | .ref i => .ref (ad.1 i)
  | .int x => .int x
  | .long x => .long x
  | .float x => .float x
  | .double x => .double x
  | .null => .null
  | .retAddr x => .ref (ad.2 x)
def pj_a (ad : pj_A) (x : vp_A) : vp_A := (x.1, match x.2 with
  | .inl f => .inl f
  | .inr (.inl f) => .inr (.inl f)
  | .inr (.inr (.inl f)) => .inr (.inr (.inl f))
  | .inr (.inr (.inr (.inl f))) => .inr (.inr (.inr (.inl f)))
  | .inr (.inr (.inr (.inr f))) => .inr (.inr (.inr (.inr (fun j => (f j).map ad.1)))))
def pj_e (ad : pj_A) (cy : Nat → ClassId) : pj_C → va_E
  | .inl x => .inl (cy x.1, pj_a ad x.2)
  | .inr x => .inr (x.1, x.2.map (pj_v ad))
def pj_w (ad : pj_A) (cy : Nat → ClassId) : Nat → List pj_C → va_W
  | _, [] => []
  | k, c :: t => (ad.1 (k + 1), pj_e ad cy c) :: pj_w ad cy (k + 1) t
theorem pj_w_get (ad : pj_A) (cy : Nat → ClassId) : ∀ (σ : List pj_C) (k i : Nat), (pj_w ad cy k σ)[i]? = σ[i]?.map (fun c => (ad.1 (k + i + 1), pj_e ad cy c))
  | [], k, i => by simp [pj_w]
  | c :: t, k, 0 => by simp [pj_w]
  | c :: t, k, i + 1 => by
    have h := pj_w_get ad cy t (k + 1) i
    simp only [pj_w, List.getElem?_cons_succ, h]
    have e : k + 1 + i + 1 = k + (i + 1) + 1 := by omega
    rw [e]
theorem pj_w_set (ad : pj_A) (cy : Nat → ClassId) (c : pj_C) : ∀ (σ : List pj_C) (k i : Nat), (pj_w ad cy k σ).set i (ad.1 (k + i + 1), pj_e ad cy c) = pj_w ad cy k (σ.set i c)
  | [], k, i => by simp [pj_w]
  | d :: t, k, 0 => by simp [pj_w]
  | d :: t, k, i + 1 => by
    have h := pj_w_set ad cy c t (k + 1) i
    have e : k + 1 + i + 1 = k + (i + 1) + 1 := by omega
    rw [e] at h
    simp only [pj_w, List.set_cons_succ, h]
theorem pj_w_app (ad : pj_A) (cy : Nat → ClassId) (c : pj_C) : ∀ (σ : List pj_C) (k : Nat), pj_w ad cy k (σ ++ [c]) = pj_w ad cy k σ ++ [(ad.1 (k + σ.length + 1), pj_e ad cy c)]
  | [], k => by simp [pj_w]
  | d :: t, k => by
    have h := pj_w_app ad cy c t (k + 1)
    have e : k + 1 + t.length + 1 = k + (t.length + 1) + 1 := by omega
    rw [e] at h
    simp only [pj_w, List.cons_append, h, List.length_cons]
theorem pj_D (b : Nat × (Nat → Nat)) (base : Nat) (cy : Nat → ClassId) (σ : List pj_C) : va_D (fun q => base ≤ q) (pj_w (pj_ad b base) cy 0 σ) := by
  refine ⟨fun i j p q hi hj e => ?_, fun k q hk => ?_⟩
  · rw [pj_w_get] at hi hj
    obtain ⟨c, -, rfl⟩ := Option.map_eq_some_iff.mp hi
    obtain ⟨d, -, rfl⟩ := Option.map_eq_some_iff.mp hj
    have e : base + (0 + i) = base + (0 + j) := e
    omega
  · rw [pj_w_get] at hk
    obtain ⟨c, -, rfl⟩ := Option.map_eq_some_iff.mp hk
    show base ≤ base + (0 + k)
    omega
/-- the cell at a virtual place -/
def pj_get (G : pj_G) : Nat → Option pj_C
  | 0 => none
  | i + 1 => G.1[i]?
def pj_put (G : pj_G) (a : Nat) (c : pj_C) : pj_G := (G.1.set (a - 1) c, G.2)
/-- the locals: read, written -/
def pj_ld : pj_L → Nat → Option Value
  | [], _ => none
  | (k, v) :: t, i => if k = i then some v else pj_ld t i
theorem pj_ld_mem : ∀ {L : pj_L} {i : Nat} {v : Value}, pj_ld L i = some v → (i, v) ∈ L
  | [], i, v, h => by simp [pj_ld] at h
  | (k, w) :: t, i, v, h => by
    simp only [pj_ld] at h
    by_cases e : k = i
    · rw [if_pos e] at h
      cases h
      rw [e]
      exact List.mem_cons_self
    · rw [if_neg e] at h
      exact List.mem_cons_of_mem _ (pj_ld_mem h)
def pj_f1 (i : Nat) (q : Nat × Value) : Bool := !(q.1 == i) && !(q.1 + 1 == i && q.2.category == 2)
def pj_f2 (i : Nat) (q : Nat × Value) : Bool := !(q.1 == i) && (!(q.1 == i + 1) && !(q.1 + 1 == i && q.2.category == 2))
def pj_st1 (L : pj_L) (i : Nat) (v : Value) : pj_L := (i, v) :: L.filter (pj_f1 i)
def pj_st2 (L : pj_L) (i : Nat) (v : Value) : pj_L := (i, v) :: L.filter (pj_f2 i)
def pj_l (ad : pj_A) (L : pj_L) : pj_L := L.map (fun q => (q.1, pj_v ad q.2))
theorem pj_v_cat (ad : pj_A) (v : Value) : (pj_v ad v).category = v.category := by cases v <;> rfl
theorem pj_l_f (ad : pj_A) (f : Nat × Value → Bool) (hf : ∀ q : Nat × Value, f (q.1, pj_v ad q.2) = f q) : ∀ L : pj_L, (pj_l ad L).filter f = pj_l ad (L.filter f)
  | [] => rfl
  | q :: t => by
    have h := pj_l_f ad f hf t
    unfold pj_l at h ⊢
    rw [List.map_cons, List.filter_cons, hf q, h, List.filter_cons]
    by_cases e : f q = true
    · rw [if_pos e, if_pos e, List.map_cons]
    · rw [if_neg e, if_neg e]
theorem pj_l_1 (ad : pj_A) (L : pj_L) (i : Nat) (v w : Value) (h : pj_v ad v = w) : (i, w) :: (pj_l ad L).filter (fun q => !(q.1 == i) && !(q.1 + 1 == i && q.2.category == 2)) = pj_l ad (pj_st1 L i v) := by
  have e : (pj_l ad L).filter (pj_f1 i) = pj_l ad (L.filter (pj_f1 i)) := pj_l_f ad (pj_f1 i) (fun q => by simp only [pj_f1, pj_v_cat]) L
  show (i, w) :: (pj_l ad L).filter (pj_f1 i) = _
  rw [e, ← h]
  rfl
theorem pj_l_2 (ad : pj_A) (L : pj_L) (i : Nat) (v w : Value) (h : pj_v ad v = w) : (i, w) :: (pj_l ad L).filter (fun q => !(q.1 == i) && (!(q.1 == i + 1) && !(q.1 + 1 == i && q.2.category == 2))) = pj_l ad (pj_st2 L i v) := by
  have e : (pj_l ad L).filter (pj_f2 i) = pj_l ad (L.filter (pj_f2 i)) := pj_l_f ad (pj_f2 i) (fun q => by simp only [pj_f2, pj_v_cat]) L
  show (i, w) :: (pj_l ad L).filter (pj_f2 i) = _
  rw [e, ← h]
  rfl
theorem pj_l_at (ad : pj_A) {ls : Array Slot} {nL : Nat} {L : pj_L} (h : lv_has ls nL (pj_l ad L)) {i : Nat} {v : Value} (e : pj_ld L i = some v) : ls[i]? = some (.val (pj_v ad v)) :=
  h.2.2 (i, pj_v ad v) (List.mem_map.mpr ⟨(i, v), pj_ld_mem e, rfl⟩)
theorem pj_l_ix (ad : pj_A) {L : pj_L} {i : Nat} {v : Value} (e : pj_ld L i = some v) : ∃ k : Nat, (pj_l ad L)[k]? = some (i, pj_v ad v) := by
  have h : (i, pj_v ad v) ∈ pj_l ad L := List.mem_map.mpr ⟨(i, v), pj_ld_mem e, rfl⟩
  exact List.getElem?_of_mem h
