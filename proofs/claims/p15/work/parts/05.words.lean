/-! THE CLASSES, THE WORDS, THE WORLD -/
def pj_cls : List (String × u_T × Nat × (Nat → FieldType)) := [(RX0, TX0, 4, tyX0), (RX1, TX1, 4, tyX1), (RX2, TX2, 4, tyX2), (RX3, TX3, 5, tyX3), (RX4, TX4, 5, tyX4), (RX5, TX5, 8, tyX5), (RX6, TX6, 2, tyX6), (RX7, TX7, 5, tyX7), (RX8, TX8, 9, tyX8), (RX9, TX9, 5, tyX9), (RX10, TX10, 9, tyX10), (RX11, TX11, 8, tyX11), (RX12, TX12, 60, tyX12)]
def pj_host : String := "BridgesAreLent"
/-- words that stay true as the tables warm -/
def pj_stb : Jvm.Cond → Bool
  | .fieldLinkNest .. => true
  | .methodLinkNest .. => true
  | .arrayOver (.object _) => true
  | .castable .. => true
  | .declares .. => true
  | w => goodWord w
theorem pj_stb_warm {w : Jvm.Cond} (h : pj_stb w = true) {args a' : Array Value} {s U : State} (hW : s.WarmedH U.vm) (hb : w.before args s = true) : w.before a' U = true := by
  unfold pj_stb at h
  split at h
  · exact va_Nw.use rfl (va_Nw.warmF hW (va_Nw.of rfl hb))
  · exact va_Nw.use rfl (va_Nw.warmM hW (va_Nw.of rfl hb))
  · exact va_AO.use (va_AO.moved hW.alike (va_AO.of hb))
  · exact va_Nw.use rfl (va_Nw.warmC hW (va_Nw.of rfl hb))
  · exact va_Nw.use rfl (va_Nw.warmD hW (va_Nw.of rfl hb))
  · exact word_at hW (good_of_word h) hb
def pj_all : List Jvm.Cond := lw_tbl.filter pj_stb
/-- the words, by their places: private methods' first, then table by table, 240 each -/
def pj_wt2 (i : Nat) : Nat → Option Jvm.Cond
  | 0 => tables_1_1[i % 240]?
  | 1 => tables_1_2[i % 240]?
  | 2 => tables_1_3[i % 240]?
  | 3 => tables_1_4[i % 240]?
  | 4 => tables_1_5[i % 240]?
  | 5 => tables_1_6[i % 240]?
  | 6 => tables_1_7[i % 240]?
  | 7 => tables_1_8[i % 240]?
  | 8 => tables_1_9[i % 240]?
  | _ => none
def pj_wt (pos : Nat) : Option Jvm.Cond := if Nat.blt pos 86 then (k2_sels lw_privs)[pos]? else pj_wt2 (pos - 86) ((pos - 86) / 240)
theorem pj_wt2_in {i k : Nat} {w : Jvm.Cond} (h : pj_wt2 i k = some w) : w ∈ tables_1 := by
  show w ∈ tables_1_1 ++ (tables_1_2 ++ (tables_1_3 ++ (tables_1_4 ++ (tables_1_5 ++ (tables_1_6 ++ (tables_1_7 ++ (tables_1_8 ++ (tables_1_9))))))))
  exact match k, h with
    | 0, h => List.mem_append_left _ (List.mem_of_getElem? h)
    | 1, h => List.mem_append_right _ (List.mem_append_left _ (List.mem_of_getElem? h))
    | 2, h => List.mem_append_right _ (List.mem_append_right _ (List.mem_append_left _ (List.mem_of_getElem? h)))
    | 3, h => List.mem_append_right _ (List.mem_append_right _ (List.mem_append_right _ (List.mem_append_left _ (List.mem_of_getElem? h))))
    | 4, h => List.mem_append_right _ (List.mem_append_right _ (List.mem_append_right _ (List.mem_append_right _ (List.mem_append_left _ (List.mem_of_getElem? h)))))
    | 5, h => List.mem_append_right _ (List.mem_append_right _ (List.mem_append_right _ (List.mem_append_right _ (List.mem_append_right _ (List.mem_append_left _ (List.mem_of_getElem? h))))))
    | 6, h => List.mem_append_right _ (List.mem_append_right _ (List.mem_append_right _ (List.mem_append_right _ (List.mem_append_right _ (List.mem_append_right _ (List.mem_append_left _ (List.mem_of_getElem? h)))))))
    | 7, h => List.mem_append_right _ (List.mem_append_right _ (List.mem_append_right _ (List.mem_append_right _ (List.mem_append_right _ (List.mem_append_right _ (List.mem_append_right _ (List.mem_append_left _ (List.mem_of_getElem? h))))))))
    | 8, h => List.mem_append_right _ (List.mem_append_right _ (List.mem_append_right _ (List.mem_append_right _ (List.mem_append_right _ (List.mem_append_right _ (List.mem_append_right _ (List.mem_append_right _ (List.mem_of_getElem? h))))))))
    | n + 9, h => by cases (show (none : Option Jvm.Cond) = some w from h)
theorem pj_wt_in {pos : Nat} {w : Jvm.Cond} (h : pj_wt pos = some w) : w ∈ lw_tbl := by
  unfold pj_wt at h
  split at h
  · exact List.mem_append_left _ (List.mem_of_getElem? h)
  · exact List.mem_append_right _ (pj_wt2_in h)
def pj_wd (pos : Nat) (w : Jvm.Cond) : Bool := decide (pj_wt pos = some w) && pj_stb w
theorem pj_wd_in {pos : Nat} {w : Jvm.Cond} (h : pj_wd pos w = true) : w ∈ pj_all := by
  simp only [pj_wd, Bool.and_eq_true, decide_eq_true_eq] at h
  exact List.mem_filter.mpr ⟨pj_wt_in h.1, h.2⟩
set_option maxRecDepth 100000 in
theorem pj_ws0 : ∀ q ∈ pj_cls, ∀ k, k < q.2.2.1 → u_lay q.1 q.2.1 k ∈ lw_tbl ∧ pj_stb (u_lay q.1 q.2.1 k) = true := by decide +kernel
theorem pj_cls_vw : vwCl = pj_cls.map (fun q => (q.1, q.2.1, q.2.2.1)) := rfl
theorem pj_cls_1 {ci : Nat} {q : String × u_T × Nat × (Nat → FieldType)} (h : pj_cls[ci]? = some q) : vwCl[ci]? = some (q.1, q.2.1, q.2.2.1) := by
  rw [pj_cls_vw, List.getElem?_map, h]
  rfl
theorem pj_cls_2 {ci : Nat} {q : String × u_T × Nat × (Nat → FieldType)} (h : pj_cls[ci]? = some q) : ∀ w ∈ u_ws q.1 q.2.1 q.2.2.1, w ∈ pj_all := by
  intro w hw
  obtain ⟨k, hk, rfl⟩ := List.mem_map.mp hw
  have h1 := pj_ws0 q (List.mem_of_getElem? h) k (List.mem_range.mp hk)
  exact List.mem_filter.mpr h1
theorem pj_cls_3a : ∀ q ∈ pj_cls, ∀ k, k < q.2.2.1 → parseFieldDescriptor (q.2.1 k).2.2.1 = some (q.2.2.2 k) := by decide +kernel
theorem pj_cls_4a : ∀ q ∈ pj_cls, ∀ a, a < q.2.2.1 → ∀ b, b < q.2.2.1 → a ≠ b → (q.2.1 a).2.1 ≠ (q.2.1 b).2.1 := by decide +kernel
def pj_tys (cy : Nat → ClassId) : List (ClassId × FieldType) := [(cy 0, .int), (cy 1, .long), (cy 2, .boolean), (cy 3, .object RX8)]
/-- what a field takes -/
def pj_fit : FieldType → Value → Bool
  | .int, .int _ => true
  | .long, .long _ => true
  | .boolean, .int x => decide (x = 0) || decide (x = 1)
  | .object _, .ref _ => true
  | .array _, .ref _ => true
  | _, _ => false
theorem pj_fit_s (ad : pj_A) {ty : FieldType} {v : Value} (h : pj_fit ty v = true) : narrow ty (pj_v ad v) = pj_v ad v ∧ fits ty (pj_v ad v) = true := by
  unfold pj_fit at h
  split at h
  · exact ⟨rfl, rfl⟩
  · exact ⟨rfl, rfl⟩
  · simp only [Bool.or_eq_true, decide_eq_true_eq] at h
    rcases h with rfl | rfl
    · exact (by decide +kernel : narrow .boolean (.int 0) = .int 0 ∧ fits .boolean (.int 0) = true)
    · exact (by decide +kernel : narrow .boolean (.int 1) = .int 1 ∧ fits .boolean (.int 1) = true)
  · exact ⟨rfl, rfl⟩
  · exact ⟨rfl, rfl⟩
  · cases h
def pj_okf (own : String) (idx ci k pos : Nat) : Bool := match pj_cls[ci]? with
  | none => false
  | some q => decide (k < q.2.2.1) && (pj_wd pos (.fieldLink own idx (q.2.1 k).1 (q.2.1 k).2.1 (q.2.1 k).2.2.1) || pj_wd pos (.fieldLinkNest own idx (q.2.1 k).1 (q.2.1 k).2.1 (q.2.1 k).2.2.1 pj_host))
theorem pj_okf_s {own : String} {idx ci k pos : Nat} (h : pj_okf own idx ci k pos = true) : ∃ q, pj_cls[ci]? = some q ∧ k < q.2.2.1 ∧ ((Jvm.Cond.fieldLink own idx (q.2.1 k).1 (q.2.1 k).2.1 (q.2.1 k).2.2.1) ∈ pj_all ∨ (Jvm.Cond.fieldLinkNest own idx (q.2.1 k).1 (q.2.1 k).2.1 (q.2.1 k).2.2.1 pj_host) ∈ pj_all) := by
  unfold pj_okf at h
  split at h
  · cases h
  · rename_i q hq
    simp only [Bool.and_eq_true, Bool.or_eq_true, decide_eq_true_eq] at h
    exact ⟨q, hq, h.1, h.2.elim (fun z => Or.inl (pj_wd_in z)) (fun z => Or.inr (pj_wd_in z))⟩
/-- the cells that are seen through a world -/
theorem pj_at {b : Nat × (Nat → Nat)} {base : Nat} {cy : Nat → ClassId} {G : pj_G} {a : Nat} {x : pj_C} (h : pj_get G a = some x) : ∃ i, a = i + 1 ∧ (pj_w (pj_ad b base) cy 0 G.1)[i]? = some ((pj_ad b base).1 a, pj_e (pj_ad b base) cy x) := by
  cases a with
  | zero => cases h
  | succ i =>
    refine ⟨i, rfl, ?_⟩
    rw [pj_w_get, show G.1[i]? = some x from h, Nat.zero_add]
    rfl
theorem pj_set {b : Nat × (Nat → Nat)} {base : Nat} {cy : Nat → ClassId} {G : pj_G} {i : Nat} (x : pj_C) : (pj_w (pj_ad b base) cy 0 G.1).set i ((pj_ad b base).1 (i + 1), pj_e (pj_ad b base) cy x) = pj_w (pj_ad b base) cy 0 (pj_put G (i + 1) x).1 := by
  have h := pj_w_set (pj_ad b base) cy x G.1 0 i
  rw [Nat.zero_add] at h
  exact h
