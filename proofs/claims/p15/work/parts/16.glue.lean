/-! THE START: what the Statement gives, in the pure machine's words -/
theorem pj_inst : ∀ q ∈ pj_cls, Jvm.Cond.instantiable q.1 q.2.2.1 ∈ lw_tbl := by decide +kernel
theorem pj_arrw : (Jvm.Cond.arrayClass .int ∈ lw_tbl ∧ Jvm.Cond.arrayClass .long ∈ lw_tbl ∧ Jvm.Cond.arrayClass .boolean ∈ lw_tbl ∧ Jvm.Cond.arrayOver (.object RX8) ∈ lw_tbl) := by decide +kernel
abbrev pj_fl : List Jvm.Cond := flatC (Jvm.Cond.and given_1 narrow_1)
def pj_bytL : List (List Int32) := [[110, 111, 32, 115, 117, 99, 104, 32, 99, 114, 111, 115, 115, 105, 110, 103, 44, 32, 111, 114, 32, 110, 111, 116, 104, 105, 110, 103, 32, 115, 117, 99, 104, 32, 111, 102, 32, 105, 116], [110, 111, 32, 115, 117, 99, 104, 32, 98, 114, 105, 100, 103, 101, 44, 32, 111, 114, 32, 110, 111, 116, 104, 105, 110, 103, 32, 115, 117, 99, 104, 32, 111, 102, 32, 105, 116], [110, 111, 32, 115, 117, 99, 104, 32, 112, 101, 114, 115, 111, 110, 44, 32, 111, 114, 32, 110, 111, 116, 104, 105, 110, 103, 32, 115, 117, 99, 104, 32, 111, 102, 32, 105, 116], [116, 104, 101, 32, 114, 111, 119, 32, 104, 97, 115, 32, 110, 111, 32, 115, 117, 99, 104, 32, 110, 117, 109, 98, 101, 114], [116, 108, 99, 104], [60, 62, 61], [43, 45], [42, 47], [100, 117, 108, 115, 119, 98, 110], [49, 50, 51, 52, 53, 54, 55, 56, 57], [50, 51, 52, 53, 54, 55, 56], [100, 117, 108, 115, 119, 98, 110], [60, 62, 61], [43, 45], [42, 47], [116, 108, 99, 104]]
theorem pj_bytL_ok : ∀ k, k < 16 → pj_byt k = pj_bytL.getD k [] := by decide +kernel
abbrev pj_sok (q : String × Nat × String) (bs : List Int32) : Prop := Jvm.Cond.stringRef q.1 q.2.1 q.2.2 ∈ lw_tbl ∧ Jvm.Cond.exactly (.string q.1 q.2.1) "java/lang/String" ∈ pj_fl ∧ Jvm.Cond.eq (.field (.string q.1 q.2.1) "java/lang/String" "coder" "B") (.int 0) ∈ pj_fl ∧ Jvm.Cond.arrayOf (.field (.string q.1 q.2.1) "java/lang/String" "value" "[B") .byte ∈ pj_fl ∧ Jvm.Cond.eq (.length (.field (.string q.1 q.2.1) "java/lang/String" "value" "[B")) (.int (Int32.ofNat bs.length)) ∈ pj_fl ∧ ∀ j, j < bs.length → Jvm.Cond.eq (.elem (.field (.string q.1 q.2.1) "java/lang/String" "value" "[B") (.int (Int32.ofNat j))) (.int (bs.getD j 0)) ∈ pj_fl
def pj_blk (q : String × Nat × String) (bs : List Int32) : List Jvm.Cond := [Jvm.Cond.exactly (.string q.1 q.2.1) "java/lang/String", Jvm.Cond.eq (.field (.string q.1 q.2.1) "java/lang/String" "coder" "B") (.int 0), Jvm.Cond.arrayOf (.field (.string q.1 q.2.1) "java/lang/String" "value" "[B") .byte, Jvm.Cond.eq (.length (.field (.string q.1 q.2.1) "java/lang/String" "value" "[B")) (.int (Int32.ofNat bs.length))] ++ (List.range bs.length).map (fun j => Jvm.Cond.eq (.elem (.field (.string q.1 q.2.1) "java/lang/String" "value" "[B") (.int (Int32.ofNat j))) (.int (bs.getD j 0)))
theorem pj_sok_of {q : String × Nat × String} {bs : List Int32} {p n : Nat} (h1 : Jvm.Cond.stringRef q.1 q.2.1 q.2.2 ∈ lw_tbl) (h2 : (pj_fl.drop p).take n = pj_blk q bs) : pj_sok q bs := by
  have h3 : ∀ w ∈ pj_blk q bs, w ∈ pj_fl := fun w hw => List.mem_of_mem_drop (List.mem_of_mem_take (h2 ▸ hw))
  exact ⟨h1, h3 _ (by simp [pj_blk]), h3 _ (by simp [pj_blk]), h3 _ (by simp [pj_blk]), h3 _ (by simp [pj_blk]), fun j hj => h3 _ (List.mem_append_right _ (List.mem_map.mpr ⟨j, List.mem_range.mpr hj, rfl⟩))⟩
set_option maxRecDepth 100000 in
theorem pj_bk0 : (pj_fl.drop 72).take 43 = pj_blk ("BridgesAreLent", 147, "no such crossing, or nothing such of it") (pj_bytL.getD 0 []) := by decide +kernel
set_option maxRecDepth 100000 in
theorem pj_br0 : lw_tbl[1322]? = some (Jvm.Cond.stringRef "BridgesAreLent" 147 "no such crossing, or nothing such of it") := by decide +kernel
set_option maxRecDepth 100000 in
theorem pj_bk1 : (pj_fl.drop 120).take 41 = pj_blk ("BridgesAreLent", 174, "no such bridge, or nothing such of it") (pj_bytL.getD 1 []) := by decide +kernel
set_option maxRecDepth 100000 in
theorem pj_br1 : lw_tbl[1357]? = some (Jvm.Cond.stringRef "BridgesAreLent" 174 "no such bridge, or nothing such of it") := by decide +kernel
set_option maxRecDepth 100000 in
theorem pj_bk2 : (pj_fl.drop 167).take 41 = pj_blk ("BridgesAreLent", 194, "no such person, or nothing such of it") (pj_bytL.getD 2 []) := by decide +kernel
set_option maxRecDepth 100000 in
theorem pj_br2 : lw_tbl[1365]? = some (Jvm.Cond.stringRef "BridgesAreLent" 194 "no such person, or nothing such of it") := by decide +kernel
set_option maxRecDepth 100000 in
theorem pj_bk3 : (pj_fl.drop 215).take 30 = pj_blk ("BridgesAreLent", 421, "the row has no such number") (pj_bytL.getD 3 []) := by decide +kernel
set_option maxRecDepth 100000 in
theorem pj_br3 : lw_tbl[1373]? = some (Jvm.Cond.stringRef "BridgesAreLent" 421 "the row has no such number") := by decide +kernel
set_option maxRecDepth 100000 in
theorem pj_bk4 : (pj_fl.drop 60).take 8 = pj_blk ("BridgesAreLent$Day", 39, "tlch") (pj_bytL.getD 4 []) := by decide +kernel
set_option maxRecDepth 100000 in
theorem pj_br4 : lw_tbl[889]? = some (Jvm.Cond.stringRef "BridgesAreLent$Day" 39 "tlch") := by decide +kernel
set_option maxRecDepth 100000 in
theorem pj_bk5 : (pj_fl.drop 35).take 7 = pj_blk ("BridgesAreLent$Rule", 38, "<>=") (pj_bytL.getD 5 []) := by decide +kernel
set_option maxRecDepth 100000 in
theorem pj_br5 : lw_tbl[730]? = some (Jvm.Cond.stringRef "BridgesAreLent$Rule" 38 "<>=") := by decide +kernel
set_option maxRecDepth 100000 in
theorem pj_bk6 : (pj_fl.drop 43).take 6 = pj_blk ("BridgesAreLent$Rule", 40, "+-") (pj_bytL.getD 6 []) := by decide +kernel
set_option maxRecDepth 100000 in
theorem pj_br6 : lw_tbl[731]? = some (Jvm.Cond.stringRef "BridgesAreLent$Rule" 40 "+-") := by decide +kernel
set_option maxRecDepth 100000 in
theorem pj_bk7 : (pj_fl.drop 51).take 6 = pj_blk ("BridgesAreLent$Rule", 42, "*/") (pj_bytL.getD 7 []) := by decide +kernel
set_option maxRecDepth 100000 in
theorem pj_br7 : lw_tbl[732]? = some (Jvm.Cond.stringRef "BridgesAreLent$Rule" 42 "*/") := by decide +kernel
set_option maxRecDepth 100000 in
theorem pj_bk8 : (pj_fl.drop 24).take 11 = pj_blk ("BridgesAreLent$Rule", 79, "dulswbn") (pj_bytL.getD 8 []) := by decide +kernel
set_option maxRecDepth 100000 in
theorem pj_br8 : lw_tbl[615]? = some (Jvm.Cond.stringRef "BridgesAreLent$Rule" 79 "dulswbn") := by decide +kernel
set_option maxRecDepth 100000 in
theorem pj_bk9 : (pj_fl.drop 273).take 13 = pj_blk ("BridgesAreLentModel", 200, "123456789") (pj_bytL.getD 9 []) := by decide +kernel
set_option maxRecDepth 100000 in
theorem pj_br9 : lw_tbl[1622]? = some (Jvm.Cond.stringRef "BridgesAreLentModel" 200 "123456789") := by decide +kernel
set_option maxRecDepth 100000 in
theorem pj_bk10 : (pj_fl.drop 253).take 11 = pj_blk ("BridgesAreLentModel", 208, "2345678") (pj_bytL.getD 10 []) := by decide +kernel
set_option maxRecDepth 100000 in
theorem pj_br10 : lw_tbl[1581]? = some (Jvm.Cond.stringRef "BridgesAreLentModel" 208 "2345678") := by decide +kernel
set_option maxRecDepth 100000 in
theorem pj_bk11 : (pj_fl.drop 296).take 11 = pj_blk ("BridgesAreLentModel", 243, "dulswbn") (pj_bytL.getD 11 []) := by decide +kernel
set_option maxRecDepth 100000 in
theorem pj_br11 : lw_tbl[1663]? = some (Jvm.Cond.stringRef "BridgesAreLentModel" 243 "dulswbn") := by decide +kernel
set_option maxRecDepth 100000 in
theorem pj_bk12 : (pj_fl.drop 318).take 7 = pj_blk ("BridgesAreLentModel", 248, "<>=") (pj_bytL.getD 12 []) := by decide +kernel
set_option maxRecDepth 100000 in
theorem pj_br12 : lw_tbl[1664]? = some (Jvm.Cond.stringRef "BridgesAreLentModel" 248 "<>=") := by decide +kernel
set_option maxRecDepth 100000 in
theorem pj_bk13 : (pj_fl.drop 337).take 6 = pj_blk ("BridgesAreLentModel", 250, "+-") (pj_bytL.getD 13 []) := by decide +kernel
set_option maxRecDepth 100000 in
theorem pj_br13 : lw_tbl[1665]? = some (Jvm.Cond.stringRef "BridgesAreLentModel" 250 "+-") := by decide +kernel
set_option maxRecDepth 100000 in
theorem pj_bk14 : (pj_fl.drop 356).take 6 = pj_blk ("BridgesAreLentModel", 252, "*/") (pj_bytL.getD 14 []) := by decide +kernel
set_option maxRecDepth 100000 in
theorem pj_br14 : lw_tbl[1666]? = some (Jvm.Cond.stringRef "BridgesAreLentModel" 252 "*/") := by decide +kernel
set_option maxRecDepth 100000 in
theorem pj_bk15 : (pj_fl.drop 376).take 8 = pj_blk ("BridgesAreLentModel", 367, "tlch") (pj_bytL.getD 15 []) := by decide +kernel
set_option maxRecDepth 100000 in
theorem pj_br15 : lw_tbl[1804]? = some (Jvm.Cond.stringRef "BridgesAreLentModel" 367 "tlch") := by decide +kernel
theorem pj_sAll : ∀ k, k < 16 → pj_sok (pj_strs.getD k ("", 0, "")) (pj_bytL.getD k [])
  | 0, _ => pj_sok_of (List.mem_of_getElem? pj_br0) pj_bk0
  | 1, _ => pj_sok_of (List.mem_of_getElem? pj_br1) pj_bk1
  | 2, _ => pj_sok_of (List.mem_of_getElem? pj_br2) pj_bk2
  | 3, _ => pj_sok_of (List.mem_of_getElem? pj_br3) pj_bk3
  | 4, _ => pj_sok_of (List.mem_of_getElem? pj_br4) pj_bk4
  | 5, _ => pj_sok_of (List.mem_of_getElem? pj_br5) pj_bk5
  | 6, _ => pj_sok_of (List.mem_of_getElem? pj_br6) pj_bk6
  | 7, _ => pj_sok_of (List.mem_of_getElem? pj_br7) pj_bk7
  | 8, _ => pj_sok_of (List.mem_of_getElem? pj_br8) pj_bk8
  | 9, _ => pj_sok_of (List.mem_of_getElem? pj_br9) pj_bk9
  | 10, _ => pj_sok_of (List.mem_of_getElem? pj_br10) pj_bk10
  | 11, _ => pj_sok_of (List.mem_of_getElem? pj_br11) pj_bk11
  | 12, _ => pj_sok_of (List.mem_of_getElem? pj_br12) pj_bk12
  | 13, _ => pj_sok_of (List.mem_of_getElem? pj_br13) pj_bk13
  | 14, _ => pj_sok_of (List.mem_of_getElem? pj_br14) pj_bk14
  | 15, _ => pj_sok_of (List.mem_of_getElem? pj_br15) pj_bk15
  | k + 16, h => absurd h (by omega)
theorem pj_bytL_len : ∀ k, k < 16 → (pj_bytL.getD k []).length < 2 ^ 31 := by decide +kernel
theorem pj_ot1 : lw_tbl[629]? = some (Jvm.Cond.laysStatic "java/lang/String" "COMPACT_STRINGS" "Z") := by decide +kernel
theorem pj_ot2 : lw_tbl[101]? = some (Jvm.Cond.initialized "java/lang/String") := by decide +kernel
theorem pj_ot4 : lw_tbl[1310]? = some (Jvm.Cond.laysStatic Bundle.tN "UNASSIGNED_STACK" Bundle.steD) := by decide +kernel
theorem pj_ot5 : lw_tbl[1312]? = some (Jvm.Cond.laysStatic Bundle.tN "SUPPRESSED_SENTINEL" Bundle.listD) := by decide +kernel
theorem pj_ot6 : lw_tbl[106]? = some (Jvm.Cond.initialized Bundle.tN) := by decide +kernel
theorem pj_ot3 : pj_fl[4]? = some (Jvm.Cond.eq (.static "java/lang/String" "COMPACT_STRINGS" "Z") (.int 1)) := by decide +kernel
theorem pj_ot7 : pj_fl[9]? = some (Jvm.Cond.isRef (.static Bundle.tN "UNASSIGNED_STACK" Bundle.steD)) := by decide +kernel
theorem pj_ot8 : pj_fl[10]? = some (Jvm.Cond.isRef (.static Bundle.tN "SUPPRESSED_SENTINEL" Bundle.listD)) := by decide +kernel
theorem pj_ot9 : pj_fl[5]? = some (Jvm.Cond.isRef (.static "jdk/internal/util/Preconditions" "SIOOBE_FORMATTER" "Ljava/util/function/BiFunction;")) := by decide +kernel
theorem pj_ot10 : lw_tbl[645]? = some (Jvm.Cond.laysStatic "jdk/internal/util/Preconditions" "SIOOBE_FORMATTER" "Ljava/util/function/BiFunction;") := by decide +kernel
theorem pj_ot11 : lw_tbl[103]? = some (Jvm.Cond.initialized "jdk/internal/util/Preconditions") := by decide +kernel
section PJG
variable {s : State} {args : Array Value}
theorem pj_startK (hts : ∀ w ∈ lw_tbl, w.before args s = true) : ∃ (D : va_G) (cy : Nat → ClassId), va_K D vwCl (pj_tys cy) s := by
  have h0 : ∀ ci : Nat, ∃ z : ClassId × (Nat → Nat), ∀ q, pj_cls[ci]? = some q → u_Kn s q.1 q.2.1 q.2.2.1 z.1 z.2 := by
    intro ci
    cases hq : pj_cls[ci]? with
    | none => exact ⟨(0, fun _ => 0), fun q h => by cases h⟩
    | some q =>
      obtain ⟨c, iS, h⟩ := u_known (C := q.1) (T := q.2.1) (N := q.2.2.1) (n := q.2.2.1) hts (fun w hw => (List.mem_filter.mp (pj_cls_2 hq w hw)).1) (hts _ (pj_inst q (List.mem_of_getElem? hq)))
      exact ⟨(c, iS), fun q2 h2 => by cases h2; exact h⟩
  obtain ⟨z, hz⟩ := Classical.axiomOfChoice h0
  have harr : ∀ ty : FieldType, (Jvm.Cond.arrayClass ty).before args s = true → ∃ cA, ArrOfT s cA ty ∧ s.vm.findClass ("[" ++ ty.toString) = some cA := by
    intro ty h
    obtain ⟨cA, kA, comp, h1, h2, h3⟩ := Cond.arrayClass_spec h
    exact ⟨cA, fun n z => ⟨fun k h => (by cases h), kA, h2, comp, h3⟩, h1⟩
  obtain ⟨c0, a0, f0⟩ := harr .int (hts _ pj_arrw.1)
  obtain ⟨c1, a1, f1⟩ := harr .long (hts _ pj_arrw.2.1)
  obtain ⟨c2, a2, f2⟩ := harr .boolean (hts _ pj_arrw.2.2.1)
  obtain ⟨comp, c3, k3, g1, -, g3, g4, g5⟩ := Cond.arrayOver_spec (hts _ pj_arrw.2.2.2)
  refine ⟨(fun k => (z k).1, fun k => (z k).2), fun k => if k = 0 then c0 else if k = 1 then c1 else if k = 2 then c2 else c3, fun c q hq => ?_, fun k q hq => ?_⟩
  · rw [pj_cls_vw, List.getElem?_map] at hq
    obtain ⟨q2, h1, rfl⟩ := Option.map_eq_some_iff.mp hq
    exact hz c q2 h1
  · match k, hq with
    | 0, hq => cases hq; exact ⟨a0, f0⟩
    | 1, hq => cases hq; exact ⟨a1, f1⟩
    | 2, hq => cases hq; exact ⟨a2, f2⟩
    | 3, hq => cases hq; exact ⟨fun n z => ⟨fun k h => (by cases h), k3, g3, comp, g4⟩, k3, comp, g3, g4, g1, g5⟩
    | k + 4, hq => exact absurd hq (by simp [pj_tys])
/-- one String constant -/
theorem pj_start1 {own tx : String} {idx : Nat} {by_ : List Int32} (hlen : by_.length < 2 ^ 31) (href : (Jvm.Cond.stringRef own idx tx).before args s = true) (hex : (Jvm.Cond.exactly (.string own idx) "java/lang/String").before args s = true) (hco : (Jvm.Cond.eq (.field (.string own idx) "java/lang/String" "coder" "B") (.int 0)).before args s = true)
    (har : (Jvm.Cond.arrayOf (.field (.string own idx) "java/lang/String" "value" "[B") .byte).before args s = true) (hle : (Jvm.Cond.eq (.length (.field (.string own idx) "java/lang/String" "value" "[B")) (.int (Int32.ofNat by_.length))).before args s = true)
    (hel : ∀ j : Nat, j < by_.length → (Jvm.Cond.eq (.elem (.field (.string own idx) "java/lang/String" "value" "[B") (.int (Int32.ofNat j))) (.int (by_.getD j 0))).before args s = true) :
    ∃ z : Nat × Nat, vk_R own idx tx z.1 s ∧ va_O "java/lang/String" z.1 (fun q => s.heap.size ≤ q) s s.heap ∧ va_OF "java/lang/String" "coder" "B" (.int 0) z.1 (fun q => s.heap.size ≤ q) s s.heap ∧ va_OF "java/lang/String" "value" "[B" (.ref z.2) z.1 (fun q => s.heap.size ≤ q) s s.heap ∧ va_T .byte z.2 by_.length (fun j => .int (by_.getD j 0)) (fun q => s.heap.size ≤ q) s s.heap := by
  obtain ⟨adK, adV, h1, h2⟩ := vk_Sof (args := args) (s := s) (N := 1) (tm := fun _ => .string own idx) (len := [by_.length]) (byt := [by_]) (A := fun q => s.heap.size ≤ q) (fun i hi => by cases (show i = 0 by omega); exact hlen) (fun i _ => hex) (fun i _ => hco) (fun i _ => har) (fun i hi => by cases (show i = 0 by omega); exact hle) (fun i hi j hj => by cases (show i = 0 by omega); exact hel j hj) (fun i j hi hj hne => absurd (show i = j by omega) hne) (fun a ha => Nat.not_le.mpr ha)
  have h3 := h1.1 0 (by omega)
  exact ⟨(adK 0, adV 0), vk_R.of (by exact href) (by exact h2 0 (by omega)), h3.1, h3.2.1, h3.2.2.1, h3.2.2.2⟩
/-- all that stands outside -/
theorem pj_startO {b L : Nat} {xs : Nat → Int32} (hts : ∀ w ∈ lw_tbl, w.before args s = true) (hgv : (Jvm.Cond.and given_1 narrow_1).before args s = true) (hX : va_X b L xs s s.heap) (hbl : b < s.heap.size) : ∃ (sk adV : Nat → Nat), pj_O (b, sk) s.heap.size (L + 1) xs adV s s.heap := by
  have hfl := flat_of_before _ hgv
  have h0 : ∀ k : Nat, ∃ z : Nat × Nat, ∀ q, pj_strs[k]? = some q → vk_R q.1 q.2.1 q.2.2 z.1 s ∧ va_O "java/lang/String" z.1 (fun q => s.heap.size ≤ q) s s.heap ∧ va_OF "java/lang/String" "coder" "B" (.int 0) z.1 (fun q => s.heap.size ≤ q) s s.heap ∧ va_OF "java/lang/String" "value" "[B" (.ref z.2) z.1 (fun q => s.heap.size ≤ q) s s.heap ∧ va_T .byte z.2 (pj_byt k).length (fun j => .int ((pj_byt k).getD j 0)) (fun q => s.heap.size ≤ q) s s.heap := by
    intro k
    cases hq : pj_strs[k]? with
    | none => exact ⟨(0, 0), fun q h => by cases h⟩
    | some q =>
      have hk : k < 16 := (List.getElem?_eq_some_iff.mp hq).1
      have h1 := pj_sAll k hk
      have e1 : pj_strs.getD k ("", 0, "") = q := by rw [List.getD_eq_getElem?_getD, hq]; rfl
      rw [e1] at h1
      obtain ⟨w1, w2, w3, w4, w5, w6⟩ := h1
      obtain ⟨z, hz⟩ := pj_start1 (args := args) (pj_bytL_len k hk) (hts _ w1) (hfl _ w2) (hfl _ w3) (hfl _ w4) (hfl _ w5) (fun j hj => hfl _ (w6 j hj))
      rw [← pj_bytL_ok k hk] at hz
      exact ⟨z, fun q2 h2 => by cases h2; exact hz⟩
  obtain ⟨z, hz⟩ := Classical.axiomOfChoice h0
  have o1 := List.mem_of_getElem? pj_ot1
  have o2 := List.mem_of_getElem? pj_ot2
  have o3 := List.mem_of_getElem? pj_ot3
  have o4 := List.mem_of_getElem? pj_ot4
  have o5 := List.mem_of_getElem? pj_ot5
  have o6 := List.mem_of_getElem? pj_ot6
  have o7 := List.mem_of_getElem? pj_ot7
  have o8 := List.mem_of_getElem? pj_ot8
  have o9 := List.mem_of_getElem? pj_ot9
  have o10 := List.mem_of_getElem? pj_ot10
  have o11 := List.mem_of_getElem? pj_ot11
  have hA : ∀ a : Nat, a < s.heap.size → ¬ s.heap.size ≤ a := fun a ha => Nat.not_le.mpr ha
  exact ⟨fun k => (z k).1, fun k => (z k).2, ⟨fun n hn => by cases hn; exact hX, hbl⟩, fun k q hq => hz k q hq, va_Zof (hts _ o1) (hts _ o2) (va_eqi (hfl _ o3)) hA, vx_Zqof (hts _ o4) (hts _ o6) (hfl _ o7) hA, vx_Zqof (hts _ o5) (hts _ o6) (hfl _ o8) hA, va_Zqof (hts _ o10) (hts _ o11) (hfl _ o9) hA⟩
end PJG
