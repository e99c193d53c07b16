/-! THE RULE, RECKONED ON BOTH SIDES -/
def mr_ap (g a b : Int32) : Int32 := if g.toInt = 42 then a * b else (if g.toInt = 43 then a + b else (if g.toInt = 45 then a - b else (if g.toInt = 47 then cond (pj_c1 .ne b 0) (a / b) (Int32.ofInt 0) else (if g.toInt = 60 then cond (pj_c1 .ge a b) (Int32.ofInt 0) (Int32.ofInt 1) else (if g.toInt = 62 then cond (pj_c1 .le a b) (Int32.ofInt 0) (Int32.ofInt 1) else cond (pj_c1 .ne a b) (Int32.ofInt 0) (Int32.ofInt 1))))))
theorem mr_66 (G : pj_G) (g a b : Int32) : F_66x G g a b = mr_ap g a b := by
  rw [F_66x_e]
  unfold mr_ap
  simp only [pj_nm_x]
def mr_wk (act a b : Int32) : Int32 := if act.toInt = 0 then cond (pj_c1 .ge a b) (Int32.ofInt 0) (Int32.ofInt 1) else (if act.toInt = 1 then cond (pj_c1 .le a b) (Int32.ofInt 0) (Int32.ofInt 1) else (if act.toInt = 2 then cond (pj_c1 .ne a b) (Int32.ofInt 0) (Int32.ofInt 1) else (if act.toInt = 3 then a + b else (if act.toInt = 4 then a - b else (if act.toInt = 5 then a * b else cond (pj_c1 .ne b 0) (a / b) (Int32.ofInt 0))))))
theorem mr_173 (G : pj_G) : F_173x G (Int32.ofInt 0) = Int32.ofInt 0 ∧ F_173x G (Int32.ofInt 1) = Int32.ofInt 1 := by
  refine ⟨?_, ?_⟩
  · rw [F_173x_e, pj_b0_eqT (show (Int32.ofInt 0).toInt = 0 by decide), pj_cT]
  · rw [F_173x_e, pj_b0_eqF (show ¬ (Int32.ofInt 1).toInt = 0 by decide), pj_cF]
theorem mr_202 (G : pj_G) (act a b : Int32) : F_202x G act a b = mr_wk act a b := by
  rw [F_202x_e]
  unfold mr_wk
  simp only [pj_nm_x, (mr_173 G).1, (mr_173 G).2]
/-- a sign of the class's and an act of the reference's that are the same -/
def mr_op (g act : Int) : Prop := (g = 60 ∧ act = 0) ∨ (g = 62 ∧ act = 1) ∨ (g = 61 ∧ act = 2) ∨ (g = 43 ∧ act = 3) ∨ (g = 45 ∧ act = 4) ∨ (g = 42 ∧ act = 5) ∨ (g = 47 ∧ act = 6)
theorem mr_apwk {g act : Int32} (h : mr_op g.toInt act.toInt) (a b : Int32) : mr_ap g a b = mr_wk act a b := by
  unfold mr_ap mr_wk
  rcases h with ⟨h1, h2⟩ | ⟨h1, h2⟩ | ⟨h1, h2⟩ | ⟨h1, h2⟩ | ⟨h1, h2⟩ | ⟨h1, h2⟩ | ⟨h1, h2⟩
  · rw [if_neg (by omega), if_neg (by omega), if_neg (by omega), if_neg (by omega), if_pos h1, if_pos h2]
  · rw [if_neg (by omega), if_neg (by omega), if_neg (by omega), if_neg (by omega), if_neg (by omega), if_pos h1, if_neg (by omega), if_pos h2]
  · rw [if_neg (by omega), if_neg (by omega), if_neg (by omega), if_neg (by omega), if_neg (by omega), if_neg (by omega), if_neg (by omega), if_neg (by omega), if_pos h2]
  · rw [if_neg (by omega), if_pos h1, if_neg (by omega), if_neg (by omega), if_neg (by omega), if_pos h2]
  · rw [if_neg (by omega), if_neg (by omega), if_pos h1, if_neg (by omega), if_neg (by omega), if_neg (by omega), if_neg (by omega), if_pos h2]
  · rw [if_pos h1, if_neg (by omega), if_neg (by omega), if_neg (by omega), if_neg (by omega), if_neg (by omega), if_pos h2]
  · rw [if_neg (by omega), if_neg (by omega), if_neg (by omega), if_pos h1, if_neg (by omega), if_neg (by omega), if_neg (by omega), if_neg (by omega), if_neg (by omega), if_neg (by omega)]
/-- one step of the class's, over a pile -/
def mr_s1 (th : Nat → Int32) (c : Int32) (st : List Int32) : Option (List Int32) := if c.toInt < 1000 then some (c :: st) else (if c.toInt < 2000 then some (th (c - (Int16.ofInt 1000).toInt32).toInt.toNat :: st) else (if c.toInt = 2000 then (match st with
  | x :: t => some (-x :: t)
  | [] => none) else (match st with
  | y :: x :: t => some (mr_ap (c - (Int16.ofInt 3000).toInt32) x y :: t)
  | _ => none)))
/-- one step of the reference's -/
def mr_r1 (th : Nat → Int32) (c : Int32) (st : List Int32) : Option (List Int32) := if c.toInt < 1000 then some (c :: st) else (if c.toInt < 2000 then some (th (c - (Int16.ofInt 1000).toInt32).toInt.toNat :: st) else (if c.toInt = 3000 then (match st with
  | x :: t => some (-x :: t)
  | [] => none) else (match st with
  | y :: x :: t => some (mr_wk (c - (Int16.ofInt 2000).toInt32) x y :: t)
  | _ => none)))
def mr_evl (step : Int32 → List Int32 → Option (List Int32)) : List Int32 → List Int32 → Option (List Int32)
  | [], st => some st
  | c :: t, st => (match step c st with
    | some s => mr_evl step t s
    | none => none)
theorem mr_evl_a (step : Int32 → List Int32 → Option (List Int32)) : ∀ (l m : List Int32) (st st' : List Int32), mr_evl step l st = some st' → mr_evl step (l ++ m) st = mr_evl step m st'
  | [], m, st, st', h => by
    cases h
    rfl
  | c :: t, m, st, st', h => by
    show (match step c st with
      | some s => mr_evl step (t ++ m) s
      | none => none) = _
    have h : (match step c st with
      | some s => mr_evl step t s
      | none => none) = some st' := h
    split at h
    · rename_i s e
      exact mr_evl_a step t m s st' h
    · cases h
/-- a piece of the class's steps and one of the reference's that come to the same -/
def mr_sem (cs rs : List Int32) : Prop := ∀ th : Nat → Int32, ∃ v : Int32, ∀ st : List Int32, mr_evl (mr_s1 th) cs st = some (v :: st) ∧ mr_evl (mr_r1 th) rs st = some (v :: st)
/-- codes in an array -/
def mr_cd (f : Nat → Int32) : Nat → Nat → List Int32
  | _, 0 => []
  | i, m + 1 => f i :: mr_cd f (i + 1) m
/-- a pile in an array -/
def mr_sk (f : Nat → Int32) : Nat → List Int32
  | 0 => []
  | n + 1 => f n :: mr_sk f n
theorem mr_skc {f g : Nat → Int32} : ∀ (n : Nat), (∀ j, j < n → f j = g j) → mr_sk f n = mr_sk g n
  | 0, _ => rfl
  | n + 1, h => by
    show f n :: mr_sk f n = g n :: mr_sk g n
    rw [h n (by omega), mr_skc n (fun j hj => h j (by omega))]
theorem mr_cdc {f g : Nat → Int32} : ∀ (m i : Nat), (∀ j, i ≤ j → j < i + m → f j = g j) → mr_cd f i m = mr_cd g i m
  | 0, _, _ => rfl
  | m + 1, i, h => by
    show f i :: mr_cd f (i + 1) m = g i :: mr_cd g (i + 1) m
    rw [h i (by omega) (by omega), mr_cdc m (i + 1) (fun j h1 h2 => h j (by omega) (by omega))]
theorem mr_cda (f : Nat → Int32) : ∀ (m i : Nat) (k : Nat), mr_cd f i (m + k) = mr_cd f i m ++ mr_cd f (i + m) k
  | 0, i, k => by
    rw [Nat.zero_add]
    rfl
  | m + 1, i, k => by
    rw [show m + 1 + k = (m + k) + 1 by omega]
    show f i :: mr_cd f (i + 1) (m + k) = f i :: (mr_cd f (i + 1) m ++ mr_cd f (i + (m + 1)) k)
    rw [mr_cda f m (i + 1) k, show i + 1 + m = i + (m + 1) by omega]
theorem mr_evl_s {step : Int32 → List Int32 → Option (List Int32)} {c : Int32} {st s : List Int32} (h : step c st = some s) (t : List Int32) : mr_evl step (c :: t) st = mr_evl step t s := by
  show (match step c st with
    | some s => mr_evl step t s
    | none => none) = _
  rw [h]
theorem mr_s1b (th : Nat → Int32) {c : Int32} (c1 : ¬ c.toInt < 1000) (c2 : ¬ c.toInt < 2000) (c3 : ¬ c.toInt = 2000) (x y : Int32) (t : List Int32) : mr_s1 th c (y :: x :: t) = some (mr_ap (c - (Int16.ofInt 3000).toInt32) x y :: t) := by
  unfold mr_s1
  rw [if_neg c1, if_neg c2, if_neg c3]
theorem mr_r1b (th : Nat → Int32) {c : Int32} (c1 : ¬ c.toInt < 1000) (c2 : ¬ c.toInt < 2000) (c3 : ¬ c.toInt = 3000) (x y : Int32) (t : List Int32) : mr_r1 th c (y :: x :: t) = some (mr_wk (c - (Int16.ofInt 2000).toInt32) x y :: t) := by
  unfold mr_r1
  rw [if_neg c1, if_neg c2, if_neg c3]
theorem mr_sk1 (f : Nat → Int32) (n : Nat) : mr_sk f (n + 1) = f n :: mr_sk f n := rfl
/-- two down -/
theorem mr_dn {v : Int32} {n : Nat} (h : v.toInt = ((n + 1 + 1 : Nat) : Int)) (hb : n ≤ 100) : (v + Int32.ofInt (-1)).toInt = ((n + 1 : Nat) : Int) ∧ (v + Int32.ofInt (-1)).toInt.toNat = n + 1 ∧ (v + Int32.ofInt (-1) - Int32.ofInt 1).toInt.toNat = n := by
  have k1 : (Int32.ofInt 1).toInt = 1 := by decide
  have km : (Int32.ofInt (-1)).toInt = -1 := by decide
  have e1 : (v + Int32.ofInt (-1)).toInt = ((n + 1 : Nat) : Int) := by rw [pj_addI (by omega) (by omega), km]; omega
  generalize v + Int32.ofInt (-1) = w at e1 ⊢
  have e2 : (w - Int32.ofInt 1).toInt = (n : Int) := by rw [pj_subI (by omega) (by omega), k1]; omega
  exact ⟨e1, by omega, by omega⟩
/-- the class's turn, and what follows -/
noncomputable def mr_t5 (K : Int32 → pj_G → Int32 × pj_G) (z v2 : Int32) (G : pj_G) : Int32 × pj_G := cond (pj_c1 .ge z ((Int16.ofInt 2000).toInt32)) (cond (pj_c1 .ne z ((Int16.ofInt 2000).toInt32)) (cond (pj_c1 .le v2 (Int32.ofInt 1)) (K v2 G) (K (v2 + Int32.ofInt (-1)) (pj_wa G 30 (v2 + Int32.ofInt (-1) - Int32.ofInt 1).toInt.toNat (mr_ap (z - (Int16.ofInt 3000).toInt32) (pj_ai G 30 (v2 + Int32.ofInt (-1) - Int32.ofInt 1).toInt.toNat) (pj_ai G 30 (v2 + Int32.ofInt (-1)).toInt.toNat))))) (cond (pj_c1 .le v2 0) (K v2 G) (K v2 (pj_wa G 30 (v2 - Int32.ofInt 1).toInt.toNat (-(pj_ai G 30 (v2 - Int32.ofInt 1).toInt.toNat)))))) (cond (pj_c1 .ge v2 ((Int8.ofInt 40).toInt32)) (K (v2 + Int32.ofInt (-1)) (pj_wa G 30 (v2 + Int32.ofInt (-1) - Int32.ofInt 1).toInt.toNat (mr_ap (z - (Int16.ofInt 3000).toInt32) (pj_ai G 30 (v2 + Int32.ofInt (-1) - Int32.ofInt 1).toInt.toNat) (pj_ai G 30 (v2 + Int32.ofInt (-1)).toInt.toNat)))) (cond (pj_c1 .ge z ((Int16.ofInt 1000).toInt32)) (K (v2 + Int32.ofInt 1) (pj_wa G 30 v2.toInt.toNat (pj_ai G 33 (z - (Int16.ofInt 1000).toInt32).toInt.toNat))) (K (v2 + Int32.ofInt 1) (pj_wa G 30 v2.toInt.toNat z))))
/-- THE RULE's array -/
noncomputable def mr_rc (G : pj_G) (j : Nat) : Int32 := cond (pj_rb G 27 0 28) (pj_ai G 28 j) (pj_ai G 29 j)
def mr_Q (C R : pj_G) : Prop := ((pj_fi C 27 1).toInt = 0 ∧ (pj_fi R 171 26).toInt = 0) ∨ ∃ s t : Nat, (pj_fi C 27 1).toInt = (s : Int) ∧ (pj_fi R 171 26).toInt = (t : Int) ∧ 1 ≤ s ∧ 1 ≤ t ∧ s ≤ 40 ∧ t ≤ 80 ∧ mr_sem (mr_cd (mr_rc C) 0 s) (mr_cd (pj_ai R 182) 0 t) ∧ (∀ j, j < s → (mr_rc C j).toInt < 1000 ∨ 1000 ≤ (mr_rc C j).toInt ∧ (mr_rc C j).toInt ≤ 1006 ∨ 2000 ≤ (mr_rc C j).toInt) ∧ (∀ j, j < t → (pj_ai R 182 j).toInt < 1000 ∨ 1000 ≤ (pj_ai R 182 j).toInt ∧ (pj_ai R 182 j).toInt ≤ 1006 ∨ 2000 ≤ (pj_ai R 182 j).toInt)
/-! THE RULE's own array is left as it is while the draft is written -/
def pr_kc (G G' : pj_G) : Prop := pj_rb G 27 0 28 = (!pj_rb G 27 2 28) → pj_rb G' 27 0 28 = pj_rb G 27 0 28 ∧ pj_rb G' 27 2 28 = pj_rb G 27 2 28 ∧ ∀ j, mr_rc G' j = mr_rc G j
theorem pr_kc_r (G : pj_G) : pr_kc G G := fun _ => ⟨rfl, rfl, fun _ => rfl⟩
theorem pr_kc_t {G G1 G2 : pj_G} (h1 : pr_kc G G1) (h2 : pr_kc G1 G2) : pr_kc G G2 := fun h => by
  obtain ⟨a, b, c⟩ := h1 h
  obtain ⟨a', b', c'⟩ := h2 (by rw [a, b]; exact h)
  exact ⟨a'.trans a, b'.trans b, fun j => (c' j).trans (c j)⟩
theorem pr_kc_e {G G' : pj_G} (v0 : pj_fv G' 27 0 = pj_fv G 27 0) (v2 : pj_fv G' 27 2 = pj_fv G 27 2) (h : pj_rb G 27 0 28 = (!pj_rb G 27 2 28) → ∀ j, mr_rc G' j = mr_rc G j) : pr_kc G G' := fun q => by
  have a : pj_rb G' 27 0 28 = pj_rb G 27 0 28 := by
    unfold pj_rb
    rw [v0]
  have b : pj_rb G' 27 2 28 = pj_rb G 27 2 28 := by
    unfold pj_rb
    rw [v2]
  exact ⟨a, b, h q⟩
theorem pr_rce {G G' : pj_G} (v0 : pj_fv G' 27 0 = pj_fv G 27 0) (j : Nat) (h : cond (pj_rb G 27 0 28) (pj_ai G' 28 j = pj_ai G 28 j) (pj_ai G' 29 j = pj_ai G 29 j)) : mr_rc G' j = mr_rc G j := by
  have a : pj_rb G' 27 0 28 = pj_rb G 27 0 28 := by
    unfold pj_rb
    rw [v0]
  unfold mr_rc
  rw [a]
  cases q : pj_rb G 27 0 28 with
  | true =>
    rw [q] at h
    exact h
  | false =>
    rw [q] at h
    exact h
theorem pr_kc_k {W : pj_KT} {G G' : pj_G} (k : pj_kpt W G G') (w : (W.1.all (fun q => !(pj_mF [(27, 0), (27, 2)] q.1 q.2)) && W.2.2.all (fun a => !(pj_mN [28, 29] a))) = true) : pr_kc G G' := by
  rw [Bool.and_eq_true] at w
  have n : ∀ q : Nat × Nat, pj_mF [(27, 0), (27, 2)] q.1 q.2 = true → q ∉ W.1 := fun q hq hm => by
    have z := List.all_eq_true.mp w.1 q hm
    rw [hq] at z
    cases z
  have n2 : ∀ a, pj_mN [28, 29] a = true → a ∉ W.2.2 := fun a ha hm => by
    have z := List.all_eq_true.mp w.2 a hm
    rw [ha] at z
    cases z
  have v0 : pj_fv G' 27 0 = pj_fv G 27 0 := k.2.1.2 (27, 0) (n _ rfl)
  refine pr_kc_e v0 (k.2.1.2 (27, 2) (n _ rfl)) (fun _ j => pr_rce v0 j ?_)
  cases pj_rb G 27 0 28 with
  | true => exact k.2.2 28 (n2 _ rfl) j
  | false => exact k.2.2 29 (n2 _ rfl) j
theorem pr_kc28 {G : pj_G} (q : pj_fv G 27 2 = some (.ref 28)) (i : Nat) (x : Int32) : pr_kc G (pj_wa G 28 i x) := pr_kc_e (pj_fv_wa _ _ _ _ _ _) (pj_fv_wa _ _ _ _ _ _) (fun h j => pr_rce (pj_fv_wa _ _ _ _ _ _) j (by
  rw [h, pj_rb_t q]
  exact pj_ai_wa_ne _ _ _ _ _ _ (by decide)))
theorem pr_kc29 {G : pj_G} (q : pj_fv G 27 2 = some (.ref 29)) (i : Nat) (x : Int32) : pr_kc G (pj_wa G 29 i x) := pr_kc_e (pj_fv_wa _ _ _ _ _ _) (pj_fv_wa _ _ _ _ _ _) (fun h j => pr_rce (pj_fv_wa _ _ _ _ _ _) j (by
  rw [h, pj_rb_f (b := 28) q rfl]
  exact pj_ai_wa_ne _ _ _ _ _ _ (by decide)))
theorem pr_kcv (G : pj_G) (v : Value) : pr_kc G (pj_wv G 27 3 v) := pr_kc_e (pj_fv_wv_ne _ _ _ _ _ _ (by decide)) (pj_fv_wv_ne _ _ _ _ _ _ (by decide)) (fun _ j => pr_rce (pj_fv_wv_ne _ _ _ _ _ _ (by decide)) j (by
  rw [pj_ai_wv, pj_ai_wv]
  cases pj_rb G 27 0 28 <;> rfl))
