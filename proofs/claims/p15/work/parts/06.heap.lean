section PJH
variable {p : Program} {l : Launch} {e : Env} {R : Room} {s : State} {m : MethodId} {args : Array Value} {below : List Frame} {meth : Method} {c : Code} {H : Heap} {locs : List Loc} {cells slots : Nat} {Q : State → Prop}
variable {cc : ByteArray} {pc : Nat} {ls : Array Slot} {b : Nat × (Nat → Nat)} {base : Nat} {cy : Nat → ClassId} {D : va_G} {G G' : pj_G} {S S' : List Value} {own : String} {dc ds : Nat}
/-- where a step comes to -/
abbrev pj_N (p : Program) (l : Launch) (e : Env) (R : Room) (s : State) (m : MethodId) (args : Array Value) (below : List Frame) (meth : Method) (c : Code) (Q : State → Prop) (b : Nat × (Nat → Nat)) (base : Nat) (cy : Nat → ClassId) (D : va_G) (ls : Array Slot) (cells slots : Nat) (G : pj_G) (pc : Nat) (S : List Value) : Prop :=
  ∀ (H : Heap) (locs : List Loc), va_P D vwCl (pj_w (pj_ad b base) cy 0 G.1) H → va_S (fun q => base ≤ q) s.heap H locs → W p l e R s m args below meth c H locs cells slots Q (F0 m pc ls (S.map (pj_v (pj_ad b base))))
def pj_gf (ci k : Nat) (G : pj_G) : List Value → Option (List Value)
  | .ref a :: r => (match pj_get G a with
    | some (.inr (c, fs)) => if c = ci then (match fs[k]? with
      | some v => some (v :: r)
      | none => none) else none
    | _ => none)
  | _ => none
theorem pj_gf_s {ci k : Nat} (h : pj_gf ci k G S = some S') : ∃ a r fs v, S = .ref a :: r ∧ pj_get G a = some (.inr (ci, fs)) ∧ fs[k]? = some v ∧ S' = v :: r := by
  unfold pj_gf at h
  split at h
  · split at h
    · split at h
      · split at h
        · rename_i hg e1 _ v e2
          subst e1
          cases h
          exact ⟨_, _, _, _, rfl, hg, e2, rfl⟩
        · cases h
      · cases h
    · cases h
  · cases h
theorem pj_gf_snd (hx : p.tables.exec = Jvm.exec) (hb : c.code = cc) (hts : ∀ w ∈ pj_all, w.before args s = true) (hown : s.vm.findClass own = some m.cls) (hK : va_K D vwCl (pj_tys cy) s) {idx ci k pos : Nat} (hok : pj_okf own idx ci k pos = true) (hd : decode cc pc = .ok (.getfield idx, 3)) (h : pj_gf ci k G S = some S')
    (kk : pj_N p l e R s m args below meth c Q b base cy D ls cells slots G (pc + 3) S') : pj_N p l e R s m args below meth c Q b base cy D ls cells slots G pc S := by
  intro H locs hP hS
  obtain ⟨a, r, fs, v, rfl, g1, g2, rfl⟩ := pj_gf_s h
  obtain ⟨q, hq, hk, hw⟩ := pj_okf_s hok
  obtain ⟨i, -, hi⟩ := pj_at (b := b) (base := base) (cy := cy) g1
  have hv : (fs.map (pj_v (pj_ad b base)))[k]? = some (pj_v (pj_ad b base) v) := by rw [List.getElem?_map, g2]; rfl
  rcases hw with hw | hw
  · exact va_get (D := D) (ci := ci) (C := q.1) (T := q.2.1) (N := q.2.2.1) hx hb hts (pj_cls_2 hq) hown hK hP i hi (pj_cls_1 hq) k hk (hts _ hw) (fun _ z => z) hv hd (kk H locs hP hS)
  · exact va_getN (D := D) (ci := ci) (C := q.1) (T := q.2.1) (N := q.2.2.1) hx hb hts (pj_cls_2 hq) hown hK hP i hi (pj_cls_1 hq) k hk (hts _ hw) (fun _ z => z) hv hd (kk H locs hP hS)
def pj_ft (ci k : Nat) : FieldType := match pj_cls[ci]? with
  | some q => q.2.2.2 k
  | none => .float
/-- putfield -/
def pj_pf (ci k : Nat) (G : pj_G) : List Value → Option (pj_G × List Value)
  | v :: .ref a :: r => (match pj_get G a with
    | some (.inr (c, fs)) => if c = ci ∧ k < fs.length ∧ pj_fit (pj_ft ci k) v = true then some (pj_put G a (.inr (ci, fs.set k v)), r) else none
    | _ => none)
  | _ => none
theorem pj_pf_s {ci k : Nat} (h : pj_pf ci k G S = some (G', S')) : ∃ v a fs, S = v :: .ref a :: S' ∧ pj_get G a = some (.inr (ci, fs)) ∧ k < fs.length ∧ pj_fit (pj_ft ci k) v = true ∧ G' = pj_put G a (.inr (ci, fs.set k v)) := by
  unfold pj_pf at h
  split at h
  · split at h
    · split at h
      · rename_i hg e1
        obtain ⟨e1, e2, e3⟩ := e1
        subst e1
        cases h
        exact ⟨_, _, _, rfl, hg, e2, e3, rfl⟩
      · cases h
    · cases h
  · cases h
/-- a final field is written in a constructor of its own class alone -/
def pj_okp (own : String) (ini : Bool) (idx ci k pos : Nat) : Bool := match pj_cls[ci]? with
  | none => false
  | some q => !(q.2.1 k).2.2.2 || (ini && decide ((q.2.1 k).1 = own) && pj_wd pos (.fieldLink own idx (q.2.1 k).1 (q.2.1 k).2.1 (q.2.1 k).2.2.1))
theorem pj_pf_snd (hx : p.tables.exec = Jvm.exec) (hb : c.code = cc) (hts : ∀ w ∈ pj_all, w.before args s = true) (hown : s.vm.findClass own = some m.cls) (hK : va_K D vwCl (pj_tys cy) s) {ini : Bool} (hini : ini = true → meth.name = "<init>") {idx ci k pos : Nat} (hok : pj_okf own idx ci k pos = true) (hok2 : pj_okp own ini idx ci k pos = true) (hd : decode cc pc = .ok (.putfield idx, 3)) (h : pj_pf ci k G S = some (G', S'))
    (kk : pj_N p l e R s m args below meth c Q b base cy D ls cells slots G' (pc + 3) S') : pj_N p l e R s m args below meth c Q b base cy D ls cells slots G pc S := by
  intro H locs hP hS
  obtain ⟨v, a, fs, rfl, g1, g2, g3, rfl⟩ := pj_pf_s h
  obtain ⟨q, hq, hk, hw⟩ := pj_okf_s hok
  obtain ⟨i, rfl, hi⟩ := pj_at (b := b) (base := base) (cy := cy) g1
  have hty := pj_cls_3a q (List.mem_of_getElem? hq)
  have hnm := pj_cls_4a q (List.mem_of_getElem? hq)
  have hft : pj_ft ci k = q.2.2.2 k := by unfold pj_ft; rw [hq]
  rw [hft] at g3
  obtain ⟨f1, f2⟩ := pj_fit_s (pj_ad b base) g3
  have hl : k < (fs.map (pj_v (pj_ad b base))).length := by rw [List.length_map]; exact g2
  have hset : (pj_w (pj_ad b base) cy 0 G.1).set i ((pj_ad b base).1 (i + 1), .inr (ci, (fs.map (pj_v (pj_ad b base))).set k (pj_v (pj_ad b base) v))) = pj_w (pj_ad b base) cy 0 (pj_put G (i + 1) (.inr (ci, fs.set k v))).1 := by
    rw [← pj_set, ← List.map_set]
    rfl
  have kk' : ∀ (H1 : Heap) (locs1 : List Loc), va_P D vwCl ((pj_w (pj_ad b base) cy 0 G.1).set i ((pj_ad b base).1 (i + 1), .inr (ci, (fs.map (pj_v (pj_ad b base))).set k (pj_v (pj_ad b base) v)))) H1 → va_D (fun q => base ≤ q) ((pj_w (pj_ad b base) cy 0 G.1).set i ((pj_ad b base).1 (i + 1), .inr (ci, (fs.map (pj_v (pj_ad b base))).set k (pj_v (pj_ad b base) v)))) → va_S (fun q => base ≤ q) s.heap H1 locs1 → W p l e R s m args below meth c H1 locs1 cells slots Q (F0 m (pc + 3) ls (S'.map (pj_v (pj_ad b base)))) := fun H1 locs1 hP1 _ hS1 => kk H1 locs1 (hset ▸ hP1) hS1
  have hok2 : ((q.2.1 k).2.2.2 = false) ∨ ((q.2.1 k).2.2.2 = true ∧ (ini = true ∧ (q.2.1 k).1 = own) ∧ pj_wd pos (.fieldLink own idx (q.2.1 k).1 (q.2.1 k).2.1 (q.2.1 k).2.2.1) = true) := by
    unfold pj_okp at hok2
    rw [hq] at hok2
    cases hf : (q.2.1 k).2.2.2 with
    | false => exact Or.inl rfl
    | true =>
      simp only [hf, Bool.not_true, Bool.false_or, Bool.and_eq_true, decide_eq_true_eq] at hok2
      exact Or.inr ⟨rfl, hok2⟩
  rcases hok2 with hf | ⟨hf, ⟨hi1, hi2⟩, hi3⟩
  · rcases hw with hw | hw
    · exact va_put (D := D) (ci := ci) (C := q.1) (T := q.2.1) (N := q.2.2.1) hx hb hts (pj_cls_2 hq) q.2.2.2 hty hnm hown hK hP (pj_D b base cy G.1) hS i hi (pj_cls_1 hq) k hk (hts _ hw) (fun _ z => z) hf (hty k hk) f1 f2 hl hd kk'
    · exact va_putN (D := D) (ci := ci) (C := q.1) (T := q.2.1) (N := q.2.2.1) hx hb hts (pj_cls_2 hq) q.2.2.2 hty hnm hown hK hP (pj_D b base cy G.1) hS i hi (pj_cls_1 hq) k hk (hts _ hw) (fun _ z => z) hf (hty k hk) f1 f2 hl hd kk'
  · exact va_putF (D := D) (ci := ci) (C := q.1) (T := q.2.1) (N := q.2.2.1) hx hb hts (pj_cls_2 hq) q.2.2.2 hty hnm hown hK hP (pj_D b base cy G.1) hS i hi (pj_cls_1 hq) k hk (hts _ (pj_wd_in hi3)) (fun _ z => z) hf (hini hi1) hi2 (hty k hk) f1 f2 hl hd kk'
/-! arrays -/
theorem pj_rf (ad : pj_A) (r : Option Nat) : pj_v ad (va_rf r) = va_rf (r.map ad.1) := by cases r <;> rfl
def pj_rdi (G : pj_G) : List Value → Option (List Value)
  | .int j :: .ref a :: r => (match pj_get G a with
    | some (.inl (k, n, .inl f)) => if k = 0 ∧ ¬ (j < 0 ∨ n ≤ j.toNatClampNeg) then some (.int (f j.toNatClampNeg) :: r) else none
    | _ => none)
  | _ => none
theorem pj_rdi_s (h : pj_rdi G S = some S') : ∃ (j : Int32) (a : Nat) (r : List Value) (n : Nat) (f : Nat → Int32), S = .int j :: .ref a :: r ∧ pj_get G a = some (.inl (0, n, .inl f)) ∧ vp_in j n ∧ S' = .int (f j.toNatClampNeg) :: r := by
  unfold pj_rdi at h
  split at h
  · split at h
    · split at h
      · rename_i hg e1
        obtain ⟨e1, e2⟩ := e1
        subst e1
        cases h
        exact ⟨_, _, _, _, _, rfl, hg, e2, rfl⟩
      · cases h
    · cases h
  · cases h
theorem pj_rdi_snd (hx : p.tables.exec = Jvm.exec) (hb : c.code = cc) (hK : va_K D vwCl (pj_tys cy) s) (hd : decode cc pc = .ok (.iaload, 1)) (h : pj_rdi G S = some S')
    (kk : pj_N p l e R s m args below meth c Q b base cy D ls cells slots G (pc + 1) S') : pj_N p l e R s m args below meth c Q b base cy D ls cells slots G pc S := by
  intro H locs hP hS
  obtain ⟨j, a, r, n, f, rfl, g1, g2, rfl⟩ := pj_rdi_s h
  obtain ⟨i, rfl, hi⟩ := pj_at (b := b) (base := base) (cy := cy) g1
  have k1 := kk H locs hP hS
  exact va_iald hx hb hK hP i 0 hi rfl g2 hd k1
def pj_rdz (G : pj_G) : List Value → Option (List Value)
  | .int j :: .ref a :: r => (match pj_get G a with
    | some (.inl (k, n, .inl f)) => if k = 2 ∧ ¬ (j < 0 ∨ n ≤ j.toNatClampNeg) then some (.int (f j.toNatClampNeg) :: r) else none
    | _ => none)
  | _ => none
theorem pj_rdz_s (h : pj_rdz G S = some S') : ∃ (j : Int32) (a : Nat) (r : List Value) (n : Nat) (f : Nat → Int32), S = .int j :: .ref a :: r ∧ pj_get G a = some (.inl (2, n, .inl f)) ∧ vp_in j n ∧ S' = .int (f j.toNatClampNeg) :: r := by
  unfold pj_rdz at h
  split at h
  · split at h
    · split at h
      · rename_i hg e1
        obtain ⟨e1, e2⟩ := e1
        subst e1
        cases h
        exact ⟨_, _, _, _, _, rfl, hg, e2, rfl⟩
      · cases h
    · cases h
  · cases h
theorem pj_rdz_snd (hx : p.tables.exec = Jvm.exec) (hb : c.code = cc) (hK : va_K D vwCl (pj_tys cy) s) (hd : decode cc pc = .ok (.baload, 1)) (h : pj_rdz G S = some S')
    (kk : pj_N p l e R s m args below meth c Q b base cy D ls cells slots G (pc + 1) S') : pj_N p l e R s m args below meth c Q b base cy D ls cells slots G pc S := by
  intro H locs hP hS
  obtain ⟨j, a, r, n, f, rfl, g1, g2, rfl⟩ := pj_rdz_s h
  obtain ⟨i, rfl, hi⟩ := pj_at (b := b) (base := base) (cy := cy) g1
  have k1 := kk H locs hP hS
  exact va_zald hx hb hK hP i 2 hi rfl g2 hd k1
def pj_rdl (G : pj_G) : List Value → Option (List Value)
  | .int j :: .ref a :: r => (match pj_get G a with
    | some (.inl (k, n, .inr (.inl f))) => if k = 1 ∧ ¬ (j < 0 ∨ n ≤ j.toNatClampNeg) then some (.long (f j.toNatClampNeg) :: r) else none
    | _ => none)
  | _ => none
theorem pj_rdl_s (h : pj_rdl G S = some S') : ∃ (j : Int32) (a : Nat) (r : List Value) (n : Nat) (f : Nat → Int64), S = .int j :: .ref a :: r ∧ pj_get G a = some (.inl (1, n, .inr (.inl f))) ∧ vp_in j n ∧ S' = .long (f j.toNatClampNeg) :: r := by
  unfold pj_rdl at h
  split at h
  · split at h
    · split at h
      · rename_i hg e1
        obtain ⟨e1, e2⟩ := e1
        subst e1
        cases h
        exact ⟨_, _, _, _, _, rfl, hg, e2, rfl⟩
      · cases h
    · cases h
  · cases h
theorem pj_rdl_snd (hx : p.tables.exec = Jvm.exec) (hb : c.code = cc) (hK : va_K D vwCl (pj_tys cy) s) (hd : decode cc pc = .ok (.laload, 1)) (h : pj_rdl G S = some S')
    (kk : pj_N p l e R s m args below meth c Q b base cy D ls cells slots G (pc + 1) S') : pj_N p l e R s m args below meth c Q b base cy D ls cells slots G pc S := by
  intro H locs hP hS
  obtain ⟨j, a, r, n, f, rfl, g1, g2, rfl⟩ := pj_rdl_s h
  obtain ⟨i, rfl, hi⟩ := pj_at (b := b) (base := base) (cy := cy) g1
  have k1 := kk H locs hP hS
  exact va_lald hx hb hK hP i 1 hi rfl g2 hd k1
def pj_rdq (G : pj_G) : List Value → Option (List Value)
  | .int j :: .ref a :: r => (match pj_get G a with
    | some (.inl (k, n, .inr (.inr (.inr (.inr f))))) => if k = 3 ∧ ¬ (j < 0 ∨ n ≤ j.toNatClampNeg) then some (va_rf (f j.toNatClampNeg) :: r) else none
    | _ => none)
  | _ => none
theorem pj_rdq_s (h : pj_rdq G S = some S') : ∃ (j : Int32) (a : Nat) (r : List Value) (n : Nat) (f : Nat → Option Nat), S = .int j :: .ref a :: r ∧ pj_get G a = some (.inl (3, n, .inr (.inr (.inr (.inr f))))) ∧ vp_in j n ∧ S' = va_rf (f j.toNatClampNeg) :: r := by
  unfold pj_rdq at h
  split at h
  · split at h
    · split at h
      · rename_i hg e1
        obtain ⟨e1, e2⟩ := e1
        subst e1
        cases h
        exact ⟨_, _, _, _, _, rfl, hg, e2, rfl⟩
      · cases h
    · cases h
  · cases h
theorem pj_rdq_snd (hx : p.tables.exec = Jvm.exec) (hb : c.code = cc) (hK : va_K D vwCl (pj_tys cy) s) (hd : decode cc pc = .ok (.aaload, 1)) (h : pj_rdq G S = some S')
    (kk : pj_N p l e R s m args below meth c Q b base cy D ls cells slots G (pc + 1) S') : pj_N p l e R s m args below meth c Q b base cy D ls cells slots G pc S := by
  intro H locs hP hS
  obtain ⟨j, a, r, n, f, rfl, g1, g2, rfl⟩ := pj_rdq_s h
  obtain ⟨i, rfl, hi⟩ := pj_at (b := b) (base := base) (cy := cy) g1
  have k1 := kk H locs hP hS
  rw [List.map_cons, pj_rf] at k1
  exact va_aldq hx hb hK hP i 3 hi rfl g2 hd k1
def pj_asi (G : pj_G) : List Value → Option (pj_G × List Value)
  | .int x :: .int j :: .ref a :: r => (match pj_get G a with
    | some (.inl (k, n, .inl f)) => if k = 0 ∧ ¬ (j < 0 ∨ n ≤ j.toNatClampNeg) then some (pj_put G a (.inl (0, n, .inl (upd f j.toNatClampNeg x))), r) else none
    | _ => none)
  | _ => none
theorem pj_asi_s (h : pj_asi G S = some (G', S')) : ∃ (x : Int32) (j : Int32) (a : Nat) (n : Nat) (f : Nat → Int32), S = .int x :: .int j :: .ref a :: S' ∧ pj_get G a = some (.inl (0, n, .inl f)) ∧ vp_in j n ∧ G' = pj_put G a (.inl (0, n, .inl (upd f j.toNatClampNeg x))) := by
  unfold pj_asi at h
  split at h
  · split at h
    · split at h
      · rename_i hg e1
        obtain ⟨e1, e2⟩ := e1
        subst e1
        cases h
        exact ⟨_, _, _, _, _, rfl, hg, e2, rfl⟩
      · cases h
    · cases h
  · cases h
theorem pj_asi_snd (hx : p.tables.exec = Jvm.exec) (hb : c.code = cc) (hK : va_K D vwCl (pj_tys cy) s) (hd : decode cc pc = .ok (.iastore, 1)) (h : pj_asi G S = some (G', S'))
    (kk : pj_N p l e R s m args below meth c Q b base cy D ls cells slots G' (pc + 1) S') : pj_N p l e R s m args below meth c Q b base cy D ls cells slots G pc S := by
  intro H locs hP hS
  obtain ⟨x, j, a, n, f, rfl, g1, g2, rfl⟩ := pj_asi_s h
  obtain ⟨i, rfl, hi⟩ := pj_at (b := b) (base := base) (cy := cy) g1
  exact va_iast hx hb hK hP (pj_D b base cy G.1) hS i 0 hi rfl g2 hd (fun H1 locs1 hP1 _ hS1 => kk H1 locs1 (pj_set (b := b) (base := base) (cy := cy) (G := G) (i := i) (.inl (0, n, .inl (upd f j.toNatClampNeg x))) ▸ hP1) hS1)
def pj_asz (G : pj_G) : List Value → Option (pj_G × List Value)
  | .int x :: .int j :: .ref a :: r => (match pj_get G a with
    | some (.inl (k, n, .inl f)) => if k = 2 ∧ ¬ (j < 0 ∨ n ≤ j.toNatClampNeg) then some (pj_put G a (.inl (2, n, .inl (upd f j.toNatClampNeg (vp_nar .boolean x)))), r) else none
    | _ => none)
  | _ => none
theorem pj_asz_s (h : pj_asz G S = some (G', S')) : ∃ (x : Int32) (j : Int32) (a : Nat) (n : Nat) (f : Nat → Int32), S = .int x :: .int j :: .ref a :: S' ∧ pj_get G a = some (.inl (2, n, .inl f)) ∧ vp_in j n ∧ G' = pj_put G a (.inl (2, n, .inl (upd f j.toNatClampNeg (vp_nar .boolean x)))) := by
  unfold pj_asz at h
  split at h
  · split at h
    · split at h
      · rename_i hg e1
        obtain ⟨e1, e2⟩ := e1
        subst e1
        cases h
        exact ⟨_, _, _, _, _, rfl, hg, e2, rfl⟩
      · cases h
    · cases h
  · cases h
theorem pj_asz_snd (hx : p.tables.exec = Jvm.exec) (hb : c.code = cc) (hK : va_K D vwCl (pj_tys cy) s) (hd : decode cc pc = .ok (.bastore, 1)) (h : pj_asz G S = some (G', S'))
    (kk : pj_N p l e R s m args below meth c Q b base cy D ls cells slots G' (pc + 1) S') : pj_N p l e R s m args below meth c Q b base cy D ls cells slots G pc S := by
  intro H locs hP hS
  obtain ⟨x, j, a, n, f, rfl, g1, g2, rfl⟩ := pj_asz_s h
  obtain ⟨i, rfl, hi⟩ := pj_at (b := b) (base := base) (cy := cy) g1
  exact va_zast hx hb hK hP (pj_D b base cy G.1) hS i 2 hi rfl g2 hd (fun H1 locs1 hP1 _ hS1 => kk H1 locs1 (pj_set (b := b) (base := base) (cy := cy) (G := G) (i := i) (.inl (2, n, .inl (upd f j.toNatClampNeg (vp_nar .boolean x)))) ▸ hP1) hS1)
def pj_asl (G : pj_G) : List Value → Option (pj_G × List Value)
  | .long x :: .int j :: .ref a :: r => (match pj_get G a with
    | some (.inl (k, n, .inr (.inl f))) => if k = 1 ∧ ¬ (j < 0 ∨ n ≤ j.toNatClampNeg) then some (pj_put G a (.inl (1, n, .inr (.inl (vp_updL f j.toNatClampNeg x)))), r) else none
    | _ => none)
  | _ => none
theorem pj_asl_s (h : pj_asl G S = some (G', S')) : ∃ (x : Int64) (j : Int32) (a : Nat) (n : Nat) (f : Nat → Int64), S = .long x :: .int j :: .ref a :: S' ∧ pj_get G a = some (.inl (1, n, .inr (.inl f))) ∧ vp_in j n ∧ G' = pj_put G a (.inl (1, n, .inr (.inl (vp_updL f j.toNatClampNeg x)))) := by
  unfold pj_asl at h
  split at h
  · split at h
    · split at h
      · rename_i hg e1
        obtain ⟨e1, e2⟩ := e1
        subst e1
        cases h
        exact ⟨_, _, _, _, _, rfl, hg, e2, rfl⟩
      · cases h
    · cases h
  · cases h
theorem pj_asl_snd (hx : p.tables.exec = Jvm.exec) (hb : c.code = cc) (hK : va_K D vwCl (pj_tys cy) s) (hd : decode cc pc = .ok (.lastore, 1)) (h : pj_asl G S = some (G', S'))
    (kk : pj_N p l e R s m args below meth c Q b base cy D ls cells slots G' (pc + 1) S') : pj_N p l e R s m args below meth c Q b base cy D ls cells slots G pc S := by
  intro H locs hP hS
  obtain ⟨x, j, a, n, f, rfl, g1, g2, rfl⟩ := pj_asl_s h
  obtain ⟨i, rfl, hi⟩ := pj_at (b := b) (base := base) (cy := cy) g1
  exact va_last hx hb hK hP (pj_D b base cy G.1) hS i 1 hi rfl g2 hd (fun H1 locs1 hP1 _ hS1 => kk H1 locs1 (pj_set (b := b) (base := base) (cy := cy) (G := G) (i := i) (.inl (1, n, .inr (.inl (vp_updL f j.toNatClampNeg x)))) ▸ hP1) hS1)
def pj_asq (G : pj_G) : List Value → Option (pj_G × List Value)
  | .ref v :: .int j :: .ref a :: r => (match pj_get G a with
    | some (.inl (k, n, .inr (.inr (.inr (.inr f))))) => (match pj_get G v with
      | some (.inr (ci, _)) => if k = 3 ∧ ci = 8 ∧ ¬ (j < 0 ∨ n ≤ j.toNatClampNeg) then some (pj_put G a (.inl (3, n, .inr (.inr (.inr (.inr (va_up f j.toNatClampNeg (some v))))))), r) else none
      | _ => none)
    | _ => none)
  | _ => none
theorem pj_asq_s (h : pj_asq G S = some (G', S')) : ∃ (v : Nat) (j : Int32) (a : Nat) (n : Nat) (f : Nat → Option Nat) (fs : List Value), S = .ref v :: .int j :: .ref a :: S' ∧ pj_get G a = some (.inl (3, n, .inr (.inr (.inr (.inr f))))) ∧ pj_get G v = some (.inr (8, fs)) ∧ vp_in j n ∧ G' = pj_put G a (.inl (3, n, .inr (.inr (.inr (.inr (va_up f j.toNatClampNeg (some v))))))) := by
  unfold pj_asq at h
  split at h
  · split at h
    · split at h
      · split at h
        · rename_i hg _ _ _ hg2 e1
          obtain ⟨e1, e2, e3⟩ := e1
          subst e1
          subst e2
          cases h
          exact ⟨_, _, _, _, _, _, rfl, hg, hg2, e3, rfl⟩
        · cases h
      · cases h
    · cases h
  · cases h
theorem pj_asq_snd (hx : p.tables.exec = Jvm.exec) (hb : c.code = cc) (hK : va_K D vwCl (pj_tys cy) s) (hd : decode cc pc = .ok (.aastore, 1)) (h : pj_asq G S = some (G', S'))
    (kk : pj_N p l e R s m args below meth c Q b base cy D ls cells slots G' (pc + 1) S') : pj_N p l e R s m args below meth c Q b base cy D ls cells slots G pc S := by
  intro H locs hP hS
  obtain ⟨v, j, a, n, f, fs, rfl, g1, g3, g2, rfl⟩ := pj_asq_s h
  obtain ⟨i, rfl, hi⟩ := pj_at (b := b) (base := base) (cy := cy) g1
  obtain ⟨i2, rfl, hi2⟩ := pj_at (b := b) (base := base) (cy := cy) g3
  have hc : vwCl[8]? = some (RX8, TX8, 9) := rfl
  have e : (fun k => (va_up f j.toNatClampNeg (some (i2 + 1)) k).map (pj_ad b base).1) = va_up (fun k => (f k).map (pj_ad b base).1) j.toNatClampNeg (some ((pj_ad b base).1 (i2 + 1))) := by
    funext k
    by_cases z : k = j.toNatClampNeg
    · simp [va_up, z]
    · simp [va_up, z]
  have hset := pj_set (b := b) (base := base) (cy := cy) (G := G) (i := i) (.inl (3, n, .inr (.inr (.inr (.inr (va_up f j.toNatClampNeg (some (i2 + 1))))))))
  simp only [pj_e, pj_a, e] at hset
  exact va_astq (r := (RX8, TX8, 9)) hx hb hK hP (pj_D b base cy G.1) hS i 3 i2 8 hi rfl hi2 hc g2 hd (fun H1 locs1 hP1 _ hS1 => kk H1 locs1 (hset ▸ hP1) hS1)
/-- the length of an array; of the script (n0: one more than its length; 0: it is not told) -/
def pj_aln (n0 : Nat) (G : pj_G) : List Value → Option (List Value)
  | .ref 0 :: r => (match n0 with
    | 0 => none
    | n + 1 => some (.int (Int32.ofNat n) :: r))
  | .ref a :: r => (match pj_get G a with
    | some (.inl (k, x)) => if k < 4 then some (.int (Int32.ofNat x.1) :: r) else none
    | _ => none)
  | _ => none
theorem pj_aln_snd (hx : p.tables.exec = Jvm.exec) (hb : c.code = cc) (hK : va_K D vwCl (pj_tys cy) s) {n0 : Nat} {xs : Nat → Int32} (hX : ∀ n, n0 = n + 1 → va_X b.1 n xs s s.heap) (hbl : b.1 < s.heap.size) (hbb : b.1 < base) (hd : decode cc pc = .ok (.arraylength, 1)) (h : pj_aln n0 G S = some S')
    (kk : pj_N p l e R s m args below meth c Q b base cy D ls cells slots G (pc + 1) S') : pj_N p l e R s m args below meth c Q b base cy D ls cells slots G pc S := by
  intro H locs hP hS
  have k1 := kk H locs hP hS
  unfold pj_aln at h
  split at h
  · split at h
    · cases h
    · cases h
      exact va_slen hx hb (hX _ rfl) hbl (Nat.not_le.mpr hbb) hS hd k1
  · split at h
    · split at h
      · rename_i kd x g1 g2
        cases h
        obtain ⟨i, rfl, hi⟩ := pj_at (b := b) (base := base) (cy := cy) g1
        have h4 : ∃ ty, (pj_tys cy)[kd]? = some (cy kd, ty) := by
          match kd, g2 with
          | 0, _ => exact ⟨_, rfl⟩
          | 1, _ => exact ⟨_, rfl⟩
          | 2, _ => exact ⟨_, rfl⟩
          | 3, _ => exact ⟨_, rfl⟩
          | k + 4, z => exact absurd z (by omega)
        obtain ⟨ty, hty⟩ := h4
        exact va_alen hx hb hK hP i kd hi hty rfl hd k1
      · cases h
    · cases h
  · cases h
/-- the script's ints -/
def pj_sc (n0 : Nat) (xs : Nat → Int32) : List Value → Option (List Value)
  | .int j :: .ref 0 :: r => if ¬ (j < 0 ∨ n0 ≤ j.toNatClampNeg + 1) then some (.int (xs j.toNatClampNeg) :: r) else none
  | _ => none
theorem pj_sc_snd (hx : p.tables.exec = Jvm.exec) (hb : c.code = cc) {n0 : Nat} {xs : Nat → Int32} (hX : ∀ n, n0 = n + 1 → va_X b.1 n xs s s.heap) (hbl : b.1 < s.heap.size) (hbb : b.1 < base) (hd : decode cc pc = .ok (.iaload, 1)) (h : pj_sc n0 xs S = some S')
    (kk : pj_N p l e R s m args below meth c Q b base cy D ls cells slots G (pc + 1) S') : pj_N p l e R s m args below meth c Q b base cy D ls cells slots G pc S := by
  intro H locs hP hS
  have k1 := kk H locs hP hS
  unfold pj_sc at h
  split at h
  · split at h
    · rename_i g
      cases h
      have hn : ∃ n, n0 = n + 1 := ⟨n0 - 1, by omega⟩
      obtain ⟨n, rfl⟩ := hn
      exact va_sld hx hb (hX n rfl) hbl (Nat.not_le.mpr hbb) hS (fun z => g (z.elim Or.inl (fun y => Or.inr (by omega)))) hd k1
    · cases h
  · cases h
end PJH
