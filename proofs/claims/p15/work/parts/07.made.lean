/-! WHAT STANDS OUTSIDE: the script, String constants, statics that a throw reads -/
def pj_strs : List (String × Nat × String) := [("BridgesAreLent", 147, "no such crossing, or nothing such of it"), ("BridgesAreLent", 174, "no such bridge, or nothing such of it"), ("BridgesAreLent", 194, "no such person, or nothing such of it"), ("BridgesAreLent", 421, "the row has no such number"), ("BridgesAreLent$Day", 39, "tlch"), ("BridgesAreLent$Rule", 38, "<>="), ("BridgesAreLent$Rule", 40, "+-"), ("BridgesAreLent$Rule", 42, "*/"), ("BridgesAreLent$Rule", 79, "dulswbn"), ("BridgesAreLentModel", 200, "123456789"), ("BridgesAreLentModel", 208, "2345678"), ("BridgesAreLentModel", 243, "dulswbn"), ("BridgesAreLentModel", 248, "<>="), ("BridgesAreLentModel", 250, "+-"), ("BridgesAreLentModel", 252, "*/"), ("BridgesAreLentModel", 367, "tlch")]
/-- the codes of the signs of a String constant -/
def pj_byt (k : Nat) : List Int32 := match pj_strs[k]? with
  | some q => q.2.2.toList.map (fun ch => Int32.ofNat ch.toNat)
  | none => []
def pj_O (b : Nat × (Nat → Nat)) (base n0 : Nat) (xs : Nat → Int32) (adV : Nat → Nat) (U : State) (H : Heap) : Prop :=
  ((∀ n, n0 = n + 1 → va_X b.1 n xs U H) ∧ b.1 < base) ∧
  (∀ (k : Nat) (q : String × Nat × String), pj_strs[k]? = some q → vk_R q.1 q.2.1 q.2.2 (b.2 k) U ∧ va_O "java/lang/String" (b.2 k) (fun q => base ≤ q) U H ∧ va_OF "java/lang/String" "coder" "B" (.int 0) (b.2 k) (fun q => base ≤ q) U H ∧ va_OF "java/lang/String" "value" "[B" (.ref (adV k)) (b.2 k) (fun q => base ≤ q) U H ∧ va_T .byte (adV k) (pj_byt k).length (fun j => .int ((pj_byt k).getD j 0)) (fun q => base ≤ q) U H) ∧
  va_Z "java/lang/String" "COMPACT_STRINGS" "Z" (.int 1) (fun q => base ≤ q) U H ∧ vx_Zq Bundle.tN "UNASSIGNED_STACK" Bundle.steD (fun q => base ≤ q) U H ∧ vx_Zq Bundle.tN "SUPPRESSED_SENTINEL" Bundle.listD (fun q => base ≤ q) U H ∧ va_Zq "jdk/internal/util/Preconditions" "SIOOBE_FORMATTER" "Ljava/util/function/BiFunction;" (fun q => base ≤ q) U H
theorem pj_O_kept {b : Nat × (Nat → Nat)} {base n0 : Nat} {xs : Nat → Int32} {adV : Nat → Nat} {U : State} {H H1 : Heap} (h : pj_O b base n0 xs adV U H) (hz : base ≤ H.size) (hq : ∀ a : Nat, a < H.size → ¬ base ≤ a → H1[a]? = H[a]?) : pj_O b base n0 xs adV U H1 := by
  obtain ⟨⟨h1, h2⟩, h3, h4, h5, h6, h7⟩ := h
  exact ⟨⟨fun n hn => (h1 n hn).kept (hq b.1 (by omega) (by omega)), h2⟩, fun k q hk => ⟨(h3 k q hk).1, (h3 k q hk).2.1.kept hq, (h3 k q hk).2.2.1.kept hq, (h3 k q hk).2.2.2.1.kept hq, (h3 k q hk).2.2.2.2.kept hq⟩, h4.kept hq, h5.kept hq, h6.kept hq, h7.kept hq⟩
theorem pj_O_moved {b : Nat × (Nat → Nat)} {base n0 : Nat} {xs : Nat → Int32} {adV : Nat → Nat} {s U : State} {H : Heap} (hW : s.WarmedH U.vm) (h : pj_O b base n0 xs adV s H) : pj_O b base n0 xs adV U H := by
  obtain ⟨⟨h1, h2⟩, h3, h4, h5, h6, h7⟩ := h
  exact ⟨⟨fun n hn => (h1 n hn).moved hW.alike, h2⟩, fun k q hk => ⟨(h3 k q hk).1.warm hW, (h3 k q hk).2.1.moved hW.alike, (h3 k q hk).2.2.1.moved hW.alike, (h3 k q hk).2.2.2.1.moved hW.alike, (h3 k q hk).2.2.2.2.moved hW.alike⟩, h4.moved hW.alike, h5.moved hW.alike, h6.moved hW.alike, h7.moved hW.alike⟩
def pj_x0 : Nat → Int32 := fun _ => 0
/-- a callee is not told of the script -/
theorem pj_O_0 {b : Nat × (Nat → Nat)} {base n0 : Nat} {xs : Nat → Int32} {adV : Nat → Nat} {U : State} {H : Heap} (h : pj_O b base n0 xs adV U H) : pj_O b base 0 pj_x0 adV U H := ⟨⟨fun n hn => absurd hn (by omega), h.1.2⟩, h.2⟩
theorem pj_w_len (ad : pj_A) (cy : Nat → ClassId) : ∀ (σ : List pj_C) (k : Nat), (pj_w ad cy k σ).length = σ.length
  | [], _ => rfl
  | c :: t, k => by simp only [pj_w, List.length_cons, pj_w_len ad cy t (k + 1)]
theorem pj_fresh {b : Nat × (Nat → Nat)} {base : Nat} {cy : Nat → ClassId} {D : va_G} {σ : List pj_C} {q : Nat} {x : va_E} {H1 : Heap} (hP : va_P D vwCl (pj_w (pj_ad b base) cy 0 σ ++ [(q, x)]) H1) (hD : va_D (fun q => base ≤ q) (pj_w (pj_ad b base) cy 0 σ ++ [(q, x)])) (hz : H1.size ≤ base + σ.length + 1) : q = base + σ.length := by
  have hlen := pj_w_len (pj_ad b base) cy σ 0
  have h0 : (pj_w (pj_ad b base) cy 0 σ ++ [(q, x)])[σ.length]? = some (q, x) := by rw [← hlen, List.getElem?_append_right (Nat.le_refl _), Nat.sub_self]; rfl
  have h1 : q < H1.size := (hP _ _ h0).lt
  have h2 : base ≤ q := hD.2 _ _ h0
  rcases Nat.lt_or_ge q (base + σ.length) with h | h
  · have hi : q - base < σ.length := by omega
    have h3 : (pj_w (pj_ad b base) cy 0 σ ++ [(q, x)])[q - base]? = some ((pj_ad b base).1 (0 + (q - base) + 1), pj_e (pj_ad b base) cy σ[q - base]) := by
      rw [List.getElem?_append_left (by rw [hlen]; exact hi), pj_w_get, List.getElem?_eq_getElem hi]
      rfl
    have h4 := hD.1 _ _ _ _ h3 h0 (show base + (0 + (q - base)) = q by omega)
    omega
  · omega
theorem pj_app {b : Nat × (Nat → Nat)} {base : Nat} {cy : Nat → ClassId} {σ : List pj_C} (x : pj_C) : pj_w (pj_ad b base) cy 0 σ ++ [(base + σ.length, pj_e (pj_ad b base) cy x)] = pj_w (pj_ad b base) cy 0 (σ ++ [x]) := by
  rw [pj_w_app, Nat.zero_add]
  rfl
section PJM
variable {p : Program} {l : Launch} {e : Env} {R : Room} {s : State} {m : MethodId} {args : Array Value} {below : List Frame} {meth : Method} {c : Code} {H : Heap} {locs : List Loc} {cells slots : Nat} {Q : State → Prop}
variable {cc : ByteArray} {pc : Nat} {ls : Array Slot} {b : Nat × (Nat → Nat)} {base : Nat} {cy : Nat → ClassId} {D : va_G} {G G' : pj_G} {S S' : List Value} {own : String} {dc ds : Nat}
/-- no more cells are there than were counted -/
theorem pj_exact {g : JFrame} (k : H.size ≤ s.heap.size + cells → W p l e R s m args below meth c H locs cells slots Q g) : W p l e R s m args below meth c H locs cells slots Q g := fun T hT X => k (by have h := X.same.2.2.1; rw [← hT]; exact h) T hT X
def pj_nw (ci : Nat) (G : pj_G) (S : List Value) : Option (pj_G × List Value × Nat) := match pj_cls[ci]? with
  | some q => if G.2 = true then some ((G.1 ++ [.inr (ci, (List.range q.2.2.1).map (fun k => defaultValue (q.2.2.2 k)))], true), .ref (G.1.length + 1) :: S, q.2.2.1) else none
  | none => none
def pj_okn (own : String) (idx ci p1 p2 p3 : Nat) : Bool := match pj_cls[ci]? with
  | some q => pj_wd p1 (.classLink own idx q.1) && pj_wd p2 (.instantiable q.1 q.2.2.1) && pj_wd p3 (.initialized q.1)
  | none => false
theorem pj_df (ad : pj_A) (ty : FieldType) : pj_v ad (defaultValue ty) = defaultValue ty := by cases ty <;> rfl
theorem pj_nw_snd (hx : p.tables.exec = Jvm.exec) (hb : c.code = cc) (hts : ∀ w ∈ pj_all, w.before args s = true) (hown : s.vm.findClass own = some m.cls) (hK : va_K D vwCl (pj_tys cy) s) (hbs : base ≤ s.heap.size) (hex : G.2 = true → s.heap.size + cells = base + G.1.length) {idx ci p1 p2 p3 : Nat} (hok : pj_okn own idx ci p1 p2 p3 = true) (hd : decode cc pc = .ok (.new idx, 3)) (h : pj_nw ci G S = some (G', S', ds)) (hc : cells + 1 ≤ R.cells) (hs : slots + ds ≤ R.slots)
    (kk : pj_N p l e R s m args below meth c Q b base cy D ls (cells + 1) (slots + ds) G' (pc + 3) S') : pj_N p l e R s m args below meth c Q b base cy D ls cells slots G pc S := by
  intro H locs hP hS
  unfold pj_nw at h
  split at h
  · rename_i q hq
    split at h
    · rename_i h2
      cases h
      simp only [pj_okn, hq, Bool.and_eq_true] at hok
      obtain ⟨⟨w1, w2⟩, w3⟩ := hok
      refine va_new (ci := ci) (fs := ((List.range q.2.2.1).map (fun k => defaultValue (q.2.2.2 k))).map (pj_v (pj_ad b base))) (C := q.1) (T := q.2.1) (N := q.2.2.1) hx hb hts (pj_cls_2 hq) q.2.2.2 (pj_cls_3a q (List.mem_of_getElem? hq)) hown (hts _ (pj_wd_in w1)) (hts _ (pj_wd_in w2)) (hts _ (pj_wd_in w3)) hK hP (pj_D b base cy G.1) hS (fun _ z => Nat.le_trans hbs z) (pj_cls_1 hq) ?_ hc hs hd (fun a H1 hP1 hD1 hS1 => ?_)
      · intro j hj
        simp [vp_V, hj, pj_df]
      · refine pj_exact (fun hz => ?_)
        have e1 := hex h2
        have ha := pj_fresh hP1 hD1 (by omega)
        subst ha
        exact kk H1 locs (pj_app (b := b) (base := base) (cy := cy) (.inr (ci, (List.range q.2.2.1).map (fun k => defaultValue (q.2.2.2 k)))) ▸ hP1) hS1
    · cases h
  · cases h
/-- newarray: the kind, and what it begins with -/
def pj_na0 (N : Nat) : ArrayType → Option pj_C
  | .int => some (.inl (0, N, .inl (fun _ => 0)))
  | .long => some (.inl (1, N, .inr (.inl (fun _ => 0))))
  | .boolean => some (.inl (2, N, .inl (fun _ => 0)))
  | _ => none
def pj_na (at_ : ArrayType) (G : pj_G) : List Value → Option (pj_G × List Value × Nat)
  | .int n :: r => if G.2 = true ∧ ¬ n < 0 ∧ n.toNatClampNeg ≤ 10000 then (match pj_na0 n.toNatClampNeg at_ with
    | some x => some ((G.1 ++ [x], true), .ref (G.1.length + 1) :: r, n.toNatClampNeg)
    | none => none) else none
  | _ => none
theorem pj_na_snd (hx : p.tables.exec = Jvm.exec) (hb : c.code = cc) (hts : ∀ w ∈ pj_all, w.before args s = true) (hK : va_K D vwCl (pj_tys cy) s) (hbs : base ≤ s.heap.size) (hex : G.2 = true → s.heap.size + cells = base + G.1.length) {at_ : ArrayType} {p1 : Nat} (hok : pj_wd p1 (.arrayClass (newarray.typeOf at_)) = true) (hd : decode cc pc = .ok (.newarray at_, 2)) (h : pj_na at_ G S = some (G', S', ds)) (hc : cells + 1 ≤ R.cells) (hs : slots + ds ≤ R.slots)
    (kk : pj_N p l e R s m args below meth c Q b base cy D ls (cells + 1) (slots + ds) G' (pc + 2) S') : pj_N p l e R s m args below meth c Q b base cy D ls cells slots G pc S := by
  intro H locs hP hS
  unfold pj_na at h
  split at h
  · rename_i n r
    split at h
    · rename_i hg
      obtain ⟨h2, h3, h4⟩ := hg
      split at h
      · rename_i x hx0
        cases h
        have key : ∀ (ty : FieldType) (kd : Nat) (a0 : vp_A), newarray.typeOf at_ = ty → (pj_tys cy)[kd]? = some (cy kd, ty) → (∀ cA, va_RA s cA ty → va_RA s (cy kd) ty → cA = cy kd) → x = .inl (kd, a0) → pj_a (pj_ad b base) a0 = a0 → (∀ cA : ClassId, vp_cell cA a0 = arrV cA n.toNatClampNeg (fun _ => defaultValue ty)) → n.toNatClampNeg * componentBytes ty ≤ 536870912 → W p l e R s m args below meth c H locs cells slots Q (F0 m pc ls ((Value.int n :: r).map (pj_v (pj_ad b base)))) := by
          intro ty kd a0 hty htk huq he hpa ha hby
          refine va_newa (ty := ty) (a0 := a0) hx hb (hts _ (pj_wd_in hok)) hty hK hP (pj_D b base cy G.1) hS (fun _ z => Nat.le_trans hbs z) ha h3 rfl hby hc hs hd (fun a cA H1 hK1 hP1 hD1 hS1 => ?_)
          refine pj_exact (fun hz => ?_)
          have e1 := hex h2
          have ha2 := pj_fresh hP1 hD1 (by omega)
          subst ha2
          have hcA : cA = cy kd := huq cA (hK1.2 4 (cA, ty) rfl).2 (hK.2 kd _ htk).2
          subst hcA
          subst he
          have e2 := pj_app (b := b) (base := base) (cy := cy) (σ := G.1) (.inl (kd, a0))
          simp only [pj_e, hpa] at e2
          exact kk H1 locs (e2 ▸ hP1) hS1
        cases at_
        case int => exact key .int 0 _ rfl rfl (fun cA z1 z2 => Option.some.inj (z1.symm.trans z2)) (Option.some.inj hx0).symm rfl (fun cA => rfl) (by show _ * 4 ≤ _; omega)
        case long => exact key .long 1 _ rfl rfl (fun cA z1 z2 => Option.some.inj (z1.symm.trans z2)) (Option.some.inj hx0).symm rfl (fun cA => rfl) (by show _ * 8 ≤ _; omega)
        case boolean => exact key .boolean 2 _ rfl rfl (fun cA z1 z2 => Option.some.inj (z1.symm.trans z2)) (Option.some.inj hx0).symm rfl (fun cA => rfl) (by show _ * 1 ≤ _; omega)
        all_goals cases hx0
      · cases h
    · cases h
  · cases h
/-- anewarray, of State -/
def pj_nq (G : pj_G) : List Value → Option (pj_G × List Value × Nat)
  | .int n :: r => if G.2 = true ∧ ¬ n < 0 ∧ n.toNatClampNeg ≤ 10000 then some ((G.1 ++ [.inl (3, n.toNatClampNeg, .inr (.inr (.inr (.inr (fun _ => none)))))], true), .ref (G.1.length + 1) :: r, n.toNatClampNeg) else none
  | _ => none
theorem pj_nq_snd (hx : p.tables.exec = Jvm.exec) (hb : c.code = cc) (hts : ∀ w ∈ pj_all, w.before args s = true) (hown : s.vm.findClass own = some m.cls) (hK : va_K D vwCl (pj_tys cy) s) (hbs : base ≤ s.heap.size) (hex : G.2 = true → s.heap.size + cells = base + G.1.length) {idx p1 p2 : Nat} (hok : pj_wd p1 (.classLink own idx RX8) = true) (hok2 : pj_wd p2 (.arrayOver (.object RX8)) = true) (hd : decode cc pc = .ok (.anewarray idx, 3)) (h : pj_nq G S = some (G', S', ds)) (hc : cells + 1 ≤ R.cells) (hs : slots + ds ≤ R.slots)
    (kk : pj_N p l e R s m args below meth c Q b base cy D ls (cells + 1) (slots + ds) G' (pc + 3) S') : pj_N p l e R s m args below meth c Q b base cy D ls cells slots G pc S := by
  intro H locs hP hS
  unfold pj_nq at h
  split at h
  · rename_i n r
    split at h
    · rename_i hg
      obtain ⟨h2, h3, h4⟩ := hg
      cases h
      refine va_newq hx hb hown (hts _ (pj_wd_in hok)) (va_AO.of (hts _ (pj_wd_in hok2))) hK hP (pj_D b base cy G.1) hS (fun _ z => Nat.le_trans hbs z) h3 rfl (by omega) hc hs hd (fun a cA H1 hK1 hP1 hD1 hS1 => ?_)
      refine pj_exact (fun hz => ?_)
      have e1 := hex h2
      have ha2 := pj_fresh hP1 hD1 (by omega)
      subst ha2
      obtain ⟨k1, c1, -, -, -, q1⟩ := (hK1.2 4 (cA, .object RX8) rfl).2
      obtain ⟨k2, c2, -, -, -, q2⟩ := (hK.2 3 (cy 3, .object RX8) rfl).2
      have hcA : cA = cy 3 := Option.some.inj (q1.symm.trans q2)
      subst hcA
      exact kk H1 locs (pj_app (b := b) (base := base) (cy := cy) (σ := G.1) (.inl (3, n.toNatClampNeg, .inr (.inr (.inr (.inr (fun _ => none)))))) ▸ hP1) hS1
    · cases h
  · cases h
end PJM
