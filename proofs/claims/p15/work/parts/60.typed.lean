/-! SAFETY: typed heaps, ranges -/
abbrev pj_ty : Type := Nat × Nat × List (List Nat)
/-- what lies where behind the constructors: objects (class; of fields: [] an int, [0] a long, else the refs that it may be), arrays of ints, longs, booleans, refs -/
def pj_tb : List pj_ty := [(0, 11, [[2], [4], [6], [34], [38], [46], [49], [53]]), (0, 9, [[3], [], [], [], []]), (1, 80, []), (0, 6, [[5], []]), (2, 10, []), (0, 10, [[7, 14], [7, 14], [21], [27], [31], [32], [33], [], []]), (0, 5, [[], [], [8], [9], [10], [11], [12], [13]]), (1, 10, []), (1, 10, []), (1, 10, []), (1, 10, []), (1, 10, []), (1, 10, []), (0, 5, [[], [], [15], [16], [17], [18], [19], [20]]), (1, 10, []), (1, 10, []), (1, 10, []), (1, 10, []), (1, 10, []), (1, 10, []), (0, 8, [[], [22], [23], [24], [25], [], [26], [], []]), (1, 6, []), (1, 6, []), (1, 6, []), (1, 6, []), (1, 6, []), (0, 7, [[28, 29], [], [28, 29], [], [30]]), (1, 40, []), (1, 40, []), (1, 40, []), (1, 6, []), (1, 6, []), (1, 7, []), (0, 3, [[6], [35], [], [36], [37]]), (1, 8, []), (1, 10, []), (1, 10, []), (0, 1, [[6], [39], [45], [0]]), (0, 8, [[], [40], [41], [42], [43], [], [44], [], []]), (1, 6, []), (1, 6, []), (1, 6, []), (1, 6, []), (1, 6, []), (2, 10, []), (0, 2, [[6], [47], [48], []]), (1, 12, []), (3, 12, []), (0, 0, [[50], [51], [52], []]), (1, 21, []), (1, 21, []), (1, 21, []), (0, 4, [[54], [], [], [55], [56]]), (4, 16, [[57], [63], [69], [75], [81], [87], [93], [99], [105], [111], [117], [123], [129], [135], [141], [147]]), (4, 3, [[153], [159], [165]]), (3, 3, []), (0, 8, [[], [58], [59], [60], [61], [], [62], [], []]), (1, 6, []), (1, 6, []), (1, 6, []), (1, 6, []), (1, 6, []), (0, 8, [[], [64], [65], [66], [67], [], [68], [], []]), (1, 6, []), (1, 6, []), (1, 6, []), (1, 6, []), (1, 6, []), (0, 8, [[], [70], [71], [72], [73], [], [74], [], []]), (1, 6, []), (1, 6, []), (1, 6, []), (1, 6, []), (1, 6, []), (0, 8, [[], [76], [77], [78], [79], [], [80], [], []]), (1, 6, []), (1, 6, []), (1, 6, []), (1, 6, []), (1, 6, []), (0, 8, [[], [82], [83], [84], [85], [], [86], [], []]), (1, 6, []), (1, 6, []), (1, 6, []), (1, 6, []), (1, 6, []), (0, 8, [[], [88], [89], [90], [91], [], [92], [], []]), (1, 6, []), (1, 6, []), (1, 6, []), (1, 6, []), (1, 6, []), (0, 8, [[], [94], [95], [96], [97], [], [98], [], []]), (1, 6, []), (1, 6, []), (1, 6, []), (1, 6, []), (1, 6, []), (0, 8, [[], [100], [101], [102], [103], [], [104], [], []]), (1, 6, []), (1, 6, []), (1, 6, []), (1, 6, []), (1, 6, []), (0, 8, [[], [106], [107], [108], [109], [], [110], [], []]), (1, 6, []), (1, 6, []), (1, 6, []), (1, 6, []), (1, 6, []), (0, 8, [[], [112], [113], [114], [115], [], [116], [], []]), (1, 6, []), (1, 6, []), (1, 6, []), (1, 6, []), (1, 6, []), (0, 8, [[], [118], [119], [120], [121], [], [122], [], []]), (1, 6, []), (1, 6, []), (1, 6, []), (1, 6, []), (1, 6, []), (0, 8, [[], [124], [125], [126], [127], [], [128], [], []]), (1, 6, []), (1, 6, []), (1, 6, []), (1, 6, []), (1, 6, []), (0, 8, [[], [130], [131], [132], [133], [], [134], [], []]), (1, 6, []), (1, 6, []), (1, 6, []), (1, 6, []), (1, 6, []), (0, 8, [[], [136], [137], [138], [139], [], [140], [], []]), (1, 6, []), (1, 6, []), (1, 6, []), (1, 6, []), (1, 6, []), (0, 8, [[], [142], [143], [144], [145], [], [146], [], []]), (1, 6, []), (1, 6, []), (1, 6, []), (1, 6, []), (1, 6, []), (0, 8, [[], [148], [149], [150], [151], [], [152], [], []]), (1, 6, []), (1, 6, []), (1, 6, []), (1, 6, []), (1, 6, []), (0, 8, [[], [154], [155], [156], [157], [], [158], [], []]), (1, 6, []), (1, 6, []), (1, 6, []), (1, 6, []), (1, 6, []), (0, 8, [[], [160], [161], [162], [163], [], [164], [], []]), (1, 6, []), (1, 6, []), (1, 6, []), (1, 6, []), (1, 6, []), (0, 8, [[], [166], [167], [168], [169], [], [170], [], []]), (1, 6, []), (1, 6, []), (1, 6, []), (1, 6, []), (1, 6, []), (0, 12, [[], [], [172], [], [], [], [], [], [173], [174], [175], [176], [177], [178], [179], [180], [], [], [], [], [181], [], [], [], [182], [183], [], [], [184], [185], [], [186], [], [], [], [], [187], [188], [189], [], [190], [191], [192], [193], [], [194], [195], [0], [], [196], [197], [198], [], [], [], [], [199], [200], [201], [202]]), (2, 24, []), (1, 10, []), (1, 10, []), (1, 10, []), (1, 10, []), (1, 6, []), (1, 6, []), (1, 32, []), (1, 80, []), (1, 40, []), (1, 80, []), (1, 80, []), (1, 80, []), (1, 7, []), (1, 512, []), (1, 60, []), (1, 60, []), (1, 60, []), (1, 8, []), (1, 10, []), (1, 16, []), (1, 16, []), (2, 10, []), (2, 10, []), (1, 12, []), (1, 12, []), (1, 12, []), (1, 6, []), (3, 3, []), (1, 3, []), (1, 96, []), (2, 1, [])]
def pj_tat (a : Nat) : Option pj_ty := match a with
  | 0 => none
  | i + 1 => pj_tb[i]?
def pj_rk (l : List Nat) (b : Nat) : Bool := l.any (fun c => Nat.beq c b) && Nat.blt 0 b
def pj_vok (l : List Nat) (v : Value) : Bool := match v with
  | .int _ => (match l with
    | [] => true
    | _ => false)
  | .long _ => (match l with
    | [0] => true
    | _ => false)
  | .ref b => pj_rk l b
  | _ => false
def pj_voks : List (List Nat) → List Value → Bool
  | [], [] => true
  | k :: ks, v :: vs => pj_vok k v && pj_voks ks vs
  | _, _ => false
def pj_roks : List (List Nat) → Nat → (Nat → Option Nat) → Bool
  | [], _, _ => true
  | l :: t, j, f => (match f j with
    | some b => pj_rk l b
    | none => false) && pj_roks t (j + 1) f
def pj_cok : pj_ty → pj_C → Bool
  | (0, c, ks), .inr (c', fs) => Nat.beq c' c && pj_voks ks fs
  | (1, n, _), .inl (k, m, .inl _) => Nat.beq k 0 && Nat.beq m n
  | (2, n, _), .inl (k, m, .inr (.inl _)) => Nat.beq k 1 && Nat.beq m n
  | (3, n, _), .inl (k, m, .inl _) => Nat.beq k 2 && Nat.beq m n
  | (4, n, ks), .inl (k, m, .inr (.inr (.inr (.inr f)))) => Nat.beq k 3 && (Nat.beq m n && pj_roks ks 0 f)
  | _, _ => false
def pj_coks : List pj_ty → List pj_C → Bool
  | [], [] => true
  | t :: ts, c :: cs => pj_cok t c && pj_coks ts cs
  | _, _ => false
theorem pj_coks_get : ∀ {T : List pj_ty} {cs : List pj_C} {i : Nat} {t : pj_ty}, pj_coks T cs = true → T[i]? = some t → ∃ c, cs[i]? = some c ∧ pj_cok t c = true
  | [], _, i, t, _, h => by cases h
  | s :: T, [], i, t, h, _ => by cases h
  | s :: T, c :: cs, 0, t, h, ht => by
    have h : (pj_cok s c && pj_coks T cs) = true := h
    rw [Bool.and_eq_true] at h
    cases ht
    exact ⟨c, rfl, h.1⟩
  | s :: T, c :: cs, i + 1, t, h, ht => by
    have h : (pj_cok s c && pj_coks T cs) = true := h
    rw [Bool.and_eq_true] at h
    exact pj_coks_get (T := T) (cs := cs) (i := i) h.2 ht
theorem pj_coks_set : ∀ {T : List pj_ty} {cs : List pj_C} {i : Nat} {t : pj_ty} {c' : pj_C}, pj_coks T cs = true → T[i]? = some t → pj_cok t c' = true → pj_coks T (cs.set i c') = true
  | [], _, i, t, _, _, h, _ => by cases h
  | s :: T, [], i, t, _, h, _, _ => by cases h
  | s :: T, c :: cs, 0, t, c', h, ht, hc => by
    have h : (pj_cok s c && pj_coks T cs) = true := h
    rw [Bool.and_eq_true] at h
    cases ht
    show (pj_cok s c' && pj_coks T cs) = true
    rw [Bool.and_eq_true]
    exact ⟨hc, h.2⟩
  | s :: T, c :: cs, i + 1, t, c', h, ht, hc => by
    have h : (pj_cok s c && pj_coks T cs) = true := h
    rw [Bool.and_eq_true] at h
    show (pj_cok s c && pj_coks T (cs.set i c')) = true
    rw [Bool.and_eq_true]
    exact ⟨h.1, pj_coks_set (T := T) (cs := cs) (i := i) h.2 ht hc⟩
theorem pj_voks_get : ∀ {ks : List (List Nat)} {fs : List Value} {k : Nat} {q : List Nat}, pj_voks ks fs = true → ks[k]? = some q → ∃ v, fs[k]? = some v ∧ pj_vok q v = true
  | [], _, k, q, _, h => by cases h
  | s :: ks, [], k, q, h, _ => by cases h
  | s :: ks, v :: fs, 0, q, h, ht => by
    have h : (pj_vok s v && pj_voks ks fs) = true := h
    rw [Bool.and_eq_true] at h
    cases ht
    exact ⟨v, rfl, h.1⟩
  | s :: ks, v :: fs, k + 1, q, h, ht => by
    have h : (pj_vok s v && pj_voks ks fs) = true := h
    rw [Bool.and_eq_true] at h
    exact pj_voks_get (ks := ks) (fs := fs) (k := k) h.2 ht
theorem pj_voks_set : ∀ {ks : List (List Nat)} {fs : List Value} {k : Nat} {q : List Nat} {v' : Value}, pj_voks ks fs = true → ks[k]? = some q → pj_vok q v' = true → pj_voks ks (fs.set k v') = true
  | [], _, k, q, _, _, h, _ => by cases h
  | s :: ks, [], k, q, _, h, _, _ => by cases h
  | s :: ks, v :: fs, 0, q, v', h, ht, hc => by
    have h : (pj_vok s v && pj_voks ks fs) = true := h
    rw [Bool.and_eq_true] at h
    cases ht
    show (pj_vok s v' && pj_voks ks fs) = true
    rw [Bool.and_eq_true]
    exact ⟨hc, h.2⟩
  | s :: ks, v :: fs, k + 1, q, v', h, ht, hc => by
    have h : (pj_vok s v && pj_voks ks fs) = true := h
    rw [Bool.and_eq_true] at h
    show (pj_vok s v && pj_voks ks (fs.set k v')) = true
    rw [Bool.and_eq_true]
    exact ⟨h.1, pj_voks_set (ks := ks) (fs := fs) (k := k) h.2 ht hc⟩
theorem pj_band {a b : Bool} (h1 : a = true) (h2 : b = true) : (a && b) = true := by
  rw [h1, h2]
  rfl
theorem pj_vok_i {v : Value} (h : pj_vok [] v = true) : ∃ x, v = .int x := by
  cases v
  case int x => exact ⟨x, rfl⟩
  all_goals cases (show false = true from h)
theorem pj_vok_l {v : Value} (h : pj_vok [0] v = true) : ∃ x, v = .long x := by
  cases v
  case long x => exact ⟨x, rfl⟩
  case ref b =>
    cases b with
    | zero => cases (show false = true from h)
    | succ i => cases (show false = true from h)
  all_goals cases (show false = true from h)
theorem pj_vok_r {l : List Nat} {v : Value} (hl : l ≠ []) (hl2 : l ≠ [0]) (h : pj_vok l v = true) : ∃ b, v = .ref b ∧ pj_rk l b = true := by
  cases v
  case ref b => exact ⟨b, rfl, h⟩
  case int x =>
    simp only [pj_vok] at h
    cases h
  case long x =>
    simp only [pj_vok] at h
    cases h
  all_goals cases (show false = true from h)
theorem pj_vok_ref {l : List Nat} {b : Nat} (h : pj_rk l b = true) : pj_vok l (.ref b) = true := h
/-- readers -/
def pj_fv (G : pj_G) (a k : Nat) : Option Value := match pj_get G a with
  | some (.inr (_, fs)) => fs[k]?
  | _ => none
def pj_fi (G : pj_G) (a k : Nat) : Int32 := match pj_fv G a k with
  | some (.int x) => x
  | _ => 0
def pj_ai (G : pj_G) (a j : Nat) : Int32 := match pj_get G a with
  | some (.inl (_, _, .inl f)) => f j
  | _ => 0
/-- writers -/
def pj_wv (G : pj_G) (a k : Nat) (v : Value) : pj_G := match pj_get G a with
  | some (.inr (c, fs)) => pj_put G a (.inr (c, fs.set k v))
  | _ => G
def pj_wa (G : pj_G) (a j : Nat) (x : Int32) : pj_G := match pj_get G a with
  | some (.inl (k, n, .inl f)) => pj_put G a (.inl (k, n, .inl (upd f j x)))
  | _ => G
def pj_wl (G : pj_G) (a j : Nat) (x : Int64) : pj_G := match pj_get G a with
  | some (.inl (k, n, .inr (.inl f))) => pj_put G a (.inl (k, n, .inr (.inl (vp_updL f j x))))
  | _ => G
theorem pj_get_wv (G : pj_G) (a k : Nat) (v : Value) (b : Nat) (hb : b ≠ a) : pj_get (pj_wv G a k v) b = pj_get G b := by
  unfold pj_wv
  split
  · rename_i h
    exact pj_gn h hb
  · rfl
theorem pj_get_wa (G : pj_G) (a j : Nat) (x : Int32) (b : Nat) (hb : b ≠ a) : pj_get (pj_wa G a j x) b = pj_get G b := by
  unfold pj_wa
  split
  · rename_i h
    exact pj_gn h hb
  · rfl
theorem pj_get_wl (G : pj_G) (a j : Nat) (x : Int64) (b : Nat) (hb : b ≠ a) : pj_get (pj_wl G a j x) b = pj_get G b := by
  unfold pj_wl
  split
  · rename_i h
    exact pj_gn h hb
  · rfl
theorem pj_fv_wv_ne (G : pj_G) (a k : Nat) (v : Value) (b m : Nat) (h : ¬ (b = a ∧ m = k)) : pj_fv (pj_wv G a k v) b m = pj_fv G b m := by
  by_cases e : b = a
  · subst e
    have hm : k ≠ m := fun z => h ⟨rfl, z.symm⟩
    unfold pj_wv
    split
    · rename_i c fs hg
      unfold pj_fv
      rw [pj_gp hg, hg]
      exact List.getElem?_set_ne hm
    · rfl
  · unfold pj_fv
    rw [pj_get_wv G a k v b e]
theorem pj_fi_wv_ne (G : pj_G) (a k : Nat) (v : Value) (b m : Nat) (h : ¬ (b = a ∧ m = k)) : pj_fi (pj_wv G a k v) b m = pj_fi G b m := by
  unfold pj_fi
  rw [pj_fv_wv_ne G a k v b m h]
theorem pj_fv_wa (G : pj_G) (a j : Nat) (x : Int32) (b m : Nat) : pj_fv (pj_wa G a j x) b m = pj_fv G b m := by
  by_cases e : b = a
  · subst e
    unfold pj_wa
    split
    · rename_i hg
      unfold pj_fv
      rw [pj_gp hg, hg]
    · rfl
  · unfold pj_fv
    rw [pj_get_wa G a j x b e]
theorem pj_fv_wl (G : pj_G) (a j : Nat) (x : Int64) (b m : Nat) : pj_fv (pj_wl G a j x) b m = pj_fv G b m := by
  by_cases e : b = a
  · subst e
    unfold pj_wl
    split
    · rename_i hg
      unfold pj_fv
      rw [pj_gp hg, hg]
    · rfl
  · unfold pj_fv
    rw [pj_get_wl G a j x b e]
theorem pj_fi_wa (G : pj_G) (a j : Nat) (x : Int32) (b m : Nat) : pj_fi (pj_wa G a j x) b m = pj_fi G b m := by
  unfold pj_fi
  rw [pj_fv_wa]
theorem pj_fi_wl (G : pj_G) (a j : Nat) (x : Int64) (b m : Nat) : pj_fi (pj_wl G a j x) b m = pj_fi G b m := by
  unfold pj_fi
  rw [pj_fv_wl]
theorem pj_ai_wv (G : pj_G) (a k : Nat) (v : Value) (b j : Nat) : pj_ai (pj_wv G a k v) b j = pj_ai G b j := by
  by_cases e : b = a
  · subst e
    unfold pj_wv
    split
    · rename_i hg
      unfold pj_ai
      rw [pj_gp hg, hg]
    · rfl
  · unfold pj_ai
    rw [pj_get_wv G a k v b e]
theorem pj_ai_wl (G : pj_G) (a j : Nat) (x : Int64) (b i : Nat) : pj_ai (pj_wl G a j x) b i = pj_ai G b i := by
  by_cases e : b = a
  · subst e
    unfold pj_wl
    split
    · rename_i hg
      unfold pj_ai
      rw [pj_gp hg, hg]
    · rfl
  · unfold pj_ai
    rw [pj_get_wl G a j x b e]
theorem pj_ai_wa_ne (G : pj_G) (a j : Nat) (x : Int32) (b i : Nat) (h : b ≠ a) : pj_ai (pj_wa G a j x) b i = pj_ai G b i := by
  unfold pj_ai
  rw [pj_get_wa G a j x b h]
theorem pj_ai_wa_or (G : pj_G) (a j : Nat) (x : Int32) (i : Nat) : pj_ai (pj_wa G a j x) a i = pj_ai G a i ∨ (i = j ∧ pj_ai (pj_wa G a j x) a i = x) := by
  unfold pj_wa
  split
  · rename_i k n f hg
    by_cases e : i = j
    · refine Or.inr ⟨e, ?_⟩
      unfold pj_ai
      rw [pj_gp hg]
      show upd f j x i = x
      unfold upd
      exact if_pos e
    · refine Or.inl ?_
      unfold pj_ai
      rw [pj_gp hg, hg]
      show upd f j x i = f i
      unfold upd
      exact if_neg e
  · exact Or.inl rfl
/-- the kinds of cells, from the table -/
def pj_kd (a ci k : Nat) : Option (List Nat) := match pj_tat a with
  | some (0, c, ks) => if Nat.beq c ci then ks[k]? else none
  | _ => none
theorem pj_kd_s {G : pj_G} (hS : pj_coks pj_tb G.1 = true) {a ci k : Nat} {q : List Nat} (h : pj_kd a ci k = some q) : ∃ fs v, pj_get G a = some (.inr (ci, fs)) ∧ fs[k]? = some v ∧ pj_vok q v = true ∧ (∀ v', pj_vok q v' = true → pj_coks pj_tb (pj_put G a (.inr (ci, fs.set k v'))).1 = true) := by
  cases a with
  | zero => cases h
  | succ i =>
    unfold pj_kd at h
    split at h
    · rename_i c ks ht
      have ht : pj_tb[i]? = some (0, c, ks) := ht
      split at h
      · rename_i hc
        have hc := Nat.eq_of_beq_eq_true hc
        subst hc
        obtain ⟨cell, h1, h2⟩ := pj_coks_get hS ht
        match cell, h1, h2 with
        | .inl y, h1, h2 => cases h2
        | .inr (c', fs), h1, h2 =>
          have h2 : (Nat.beq c' c && pj_voks ks fs) = true := h2
          rw [Bool.and_eq_true] at h2
          have e := Nat.eq_of_beq_eq_true h2.1
          subst e
          obtain ⟨v, h3, h4⟩ := pj_voks_get h2.2 h
          refine ⟨fs, v, h1, h3, h4, fun v' hv' => ?_⟩
          refine pj_coks_set hS ht ?_
          show (Nat.beq c' c' && pj_voks ks (fs.set k v')) = true
          rw [Bool.and_eq_true]
          exact ⟨h2.1, pj_voks_set h2.2 h hv'⟩
      · cases h
    · cases h
theorem pj_t1_s {G : pj_G} (hS : pj_coks pj_tb G.1 = true) {a n : Nat} {l : List (List Nat)} (h : pj_tat a = some (1, n, l)) : ∃ f, pj_get G a = some (.inl (0, n, .inl f)) ∧ ∀ g, pj_coks pj_tb (pj_put G a (.inl (0, n, .inl g))).1 = true := by
  cases a with
  | zero => cases h
  | succ i =>
    have ht : pj_tb[i]? = some (1, n, l) := h
    obtain ⟨cell, h1, h2⟩ := pj_coks_get hS ht
    match cell, h1, h2 with
    | .inr y, h1, h2 => cases h2
    | .inl (k, m, .inl f), h1, h2 =>
      have h2 : (Nat.beq k 0 && Nat.beq m n) = true := h2
      rw [Bool.and_eq_true] at h2
      have e1 := Nat.eq_of_beq_eq_true h2.1
      have e2 := Nat.eq_of_beq_eq_true h2.2
      subst e1 e2
      exact ⟨f, h1, fun g => pj_coks_set hS ht (pj_band h2.1 h2.2)⟩
    | .inl (k, m, .inr y), h1, h2 => cases h2
theorem pj_t3_s {G : pj_G} (hS : pj_coks pj_tb G.1 = true) {a n : Nat} {l : List (List Nat)} (h : pj_tat a = some (3, n, l)) : ∃ f, pj_get G a = some (.inl (2, n, .inl f)) ∧ ∀ g, pj_coks pj_tb (pj_put G a (.inl (2, n, .inl g))).1 = true := by
  cases a with
  | zero => cases h
  | succ i =>
    have ht : pj_tb[i]? = some (3, n, l) := h
    obtain ⟨cell, h1, h2⟩ := pj_coks_get hS ht
    match cell, h1, h2 with
    | .inr y, h1, h2 => cases h2
    | .inl (k, m, .inl f), h1, h2 =>
      have h2 : (Nat.beq k 2 && Nat.beq m n) = true := h2
      rw [Bool.and_eq_true] at h2
      have e1 := Nat.eq_of_beq_eq_true h2.1
      have e2 := Nat.eq_of_beq_eq_true h2.2
      subst e1 e2
      exact ⟨f, h1, fun g => pj_coks_set hS ht (pj_band h2.1 h2.2)⟩
    | .inl (k, m, .inr y), h1, h2 => cases h2
theorem pj_t2_s {G : pj_G} (hS : pj_coks pj_tb G.1 = true) {a n : Nat} {l : List (List Nat)} (h : pj_tat a = some (2, n, l)) : ∃ f, pj_get G a = some (.inl (1, n, .inr (.inl f))) ∧ ∀ g, pj_coks pj_tb (pj_put G a (.inl (1, n, .inr (.inl g)))).1 = true := by
  cases a with
  | zero => cases h
  | succ i =>
    have ht : pj_tb[i]? = some (2, n, l) := h
    obtain ⟨cell, h1, h2⟩ := pj_coks_get hS ht
    match cell, h1, h2 with
    | .inr y, h1, h2 => cases h2
    | .inl (k, m, .inl f), h1, h2 => cases h2
    | .inl (k, m, .inr (.inl f)), h1, h2 =>
      have h2 : (Nat.beq k 1 && Nat.beq m n) = true := h2
      rw [Bool.and_eq_true] at h2
      have e1 := Nat.eq_of_beq_eq_true h2.1
      have e2 := Nat.eq_of_beq_eq_true h2.2
      subst e1 e2
      exact ⟨f, h1, fun g => pj_coks_set hS ht (pj_band h2.1 h2.2)⟩
    | .inl (k, m, .inr (.inr y)), h1, h2 => cases h2
theorem pj_t4_s {G : pj_G} (hS : pj_coks pj_tb G.1 = true) {a n : Nat} {l : List (List Nat)} (h : pj_tat a = some (4, n, l)) : ∃ f, pj_get G a = some (.inl (3, n, .inr (.inr (.inr (.inr f))))) ∧ pj_roks l 0 f = true := by
  cases a with
  | zero => cases h
  | succ i =>
    have ht : pj_tb[i]? = some (4, n, l) := h
    obtain ⟨cell, h1, h2⟩ := pj_coks_get hS ht
    match cell, h1, h2 with
    | .inr y, h1, h2 => cases h2
    | .inl (k, m, .inl f), h1, h2 => cases h2
    | .inl (k, m, .inr (.inl f)), h1, h2 => cases h2
    | .inl (k, m, .inr (.inr (.inl f))), h1, h2 => cases h2
    | .inl (k, m, .inr (.inr (.inr (.inl f)))), h1, h2 => cases h2
    | .inl (k, m, .inr (.inr (.inr (.inr f)))), h1, h2 =>
      have h2 : (Nat.beq k 3 && (Nat.beq m n && pj_roks l 0 f)) = true := h2
      rw [Bool.and_eq_true, Bool.and_eq_true] at h2
      have e1 := Nat.eq_of_beq_eq_true h2.1
      have e2 := Nat.eq_of_beq_eq_true h2.2.1
      subst e1 e2
      exact ⟨f, h1, h2.2.2⟩
theorem pj_roks_s : ∀ {l : List (List Nat)} {i : Nat} {f : Nat → Option Nat} {j : Nat} {q : List Nat}, pj_roks l i f = true → l[j]? = some q → ∃ b, f (i + j) = some b ∧ pj_rk q b = true
  | [], i, f, j, q, _, h => by cases h
  | s :: t, i, f, 0, q, h, hq => by
    have h : ((match f i with
      | some b => pj_rk s b
      | none => false) && pj_roks t (i + 1) f) = true := h
    rw [Bool.and_eq_true] at h
    cases hq
    have h1 := h.1
    cases e : f i with
    | none =>
      rw [e] at h1
      cases h1
    | some b =>
      rw [e] at h1
      exact ⟨b, rfl, h1⟩
  | s :: t, i, f, j + 1, q, h, hq => by
    have h : ((match f i with
      | some b => pj_rk s b
      | none => false) && pj_roks t (i + 1) f) = true := h
    rw [Bool.and_eq_true] at h
    obtain ⟨b, h1, h2⟩ := pj_roks_s (l := t) (i := i + 1) (j := j) h.2 hq
    exact ⟨b, by rw [show i + (j + 1) = i + 1 + j by omega]; exact h1, h2⟩

